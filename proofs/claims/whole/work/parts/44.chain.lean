/-! The class's Reader: chains and parts. -/
variable {h : j_Hd} {M : Nat → Nat → Int32} {σ : j_St} {d p tp : Nat} {B : Nat → Nat} {n u : Nat}
def PtOk (h : j_Hd) (p tp : Nat) (B : Nat → Nat) (n u D o : Nat) (P : Nat → tR) : Prop := ∀ e, D ≤ e → ∀ q C M, Fx h M p tp B n u → M p 3 = nI q → q ≤ n → Kd M p C → C.length ≤ q → ∃ M', j_C e 46 [.ref p, .int (nI o)] (FS h M) = some (some (.int (if (P q).1 = true then nI 1 else nI 0)), FS h M') ∧ Ro p M M' C (P q)
def ChOk (h : j_Hd) (p tp : Nat) (B : Nat → Nat) (n u D lev o : Nat) (P : Nat → tR) : Prop := ∀ e, D ≤ e → ∀ q C M, Fx h M p tp B n u → M p 3 = nI q → q ≤ n → Kd M p C → C.length ≤ q → ∃ M', j_C e 45 [.ref p, .int (nI lev), .int (nI o)] (FS h M) = some (some (.int (if (P q).1 = true then nI 1 else nI 0)), FS h M') ∧ Ro p M M' C (P q)
theorem Fx_B (hf : Fx h M p tp B n u) : ∀ i, i < n → B i < 256 := fun i hi => (hf.2.2.2.2.2.2.2.2 i hi).2
theorem r_01 (b : Bool) : (if b = true then nI 1 else nI 0) = nI 0 ∨ (if b = true then nI 1 else nI 0) = nI 1 := by
  cases b
  · exact .inl rfl
  · exact .inr rfl
theorem ch_0 (hp : Rd h p) {D o : Nat} {P : Nat → tR} (hP : PtOk h p tp B n u D o P) : ChOk h p tp B n u (D + 1) 5 o P := by
  intro e he q C M hf hq hqn hk hC
  obtain ⟨e, rfl⟩ : ∃ d, e = d + 1 := ⟨e - 1, by omega⟩
  obtain ⟨M', a1, a2⟩ := hP e (by omega) q C M hf hq hqn hk hC
  refine ⟨M', ?_, a2⟩
  have p1 := hp.1
  have r := r_01 (P q).1
  rw [j_C_eq]
  simp (disch := omega) only [st_45_0, st_45_1, st_45_2, st_45_5, st_45_6, st_45_7, st_45_10, st_45_11, st_45_12, st_45_13, st_45_14, st_45_15, st_45_16, st_45_19, st_45_22, st_45_23, st_45_24, st_45_25, st_45_26, st_45_29, st_45_30, st_45_33, st_45_35, st_45_36, st_45_37, st_45_41, st_45_42, st_45_45, st_45_46, st_45_49, st_45_52, st_45_53, st_45_56, st_45_57, st_45_60, st_45_62, st_45_63, st_45_63r, st_45_64, st_45_67, st_45_68, st_45_69, st_45_72, st_45_73, st_45_74, st_45_75, st_45_76, st_45_77, st_45_80, st_45_83, st_45_84, st_45_85, st_45_86, st_45_89, st_45_91, st_45_92, st_45_95, st_45_95r, st_45_96, st_45_99, st_45_102, st_45_103, ini_45, fs_cl, fs_len, fs_rf, fs_M, fs_put, fs_cpy, ↓reduceIte, rv_ref, true_or, or_true, true_and, and_true, nI_ltI, ix_nI, nI_clamp, ps_i, ps_n, Option.bind_some, sm_0, sm_1, sm_2, sm_3, sm_4, sto_0, sto_1, sto_2, sto_3, sto_4, sto_5, sto_6, sto_7, sto_8, sto_9, sto_10, sto_11, sto_12, sto_13, sto_14, nlo_n, nlo_i, nlo_r, nlo_0, nlo_l, and_self, or_self, Nat.reduceEqDiff, Nat.reduceLT, Nat.reduceLeDiff, Nat.one_ne_zero, Nat.zero_ne_one, p1, a1, r]
theorem lv_eq {x lev : Nat} (hl : lev < 9) : lvI x = nI lev ↔ lvN x = lev := by
  unfold lvI
  by_cases e : lvN x < 9
  · rw [if_pos e]; exact nI_eq (by omega) (by omega)
  · rw [if_neg e]
    constructor
    · intro h
      have e2 := congrArg Int32.toInt h
      rw [nI_tI (by omega), show (-1 : Int32).toInt = -1 by decide +kernel] at e2
      omega
    · intro h; omega
theorem ch_s (hp : Rd h p) {D lev o : Nat} {Q : Nat → tR} (hD : 2 ≤ D) (hl : lev ≤ 4) (hG : Gd n Q) (hQ : ChOk h p tp B n u D (lev + 1) o Q) : ChOk h p tp B n u (D + 1) lev o (fun q => if (Q q).1 = true then lpR B n Q lev (if lev = 2 then 1 else 50) (Q q).2.1 (Q q).2.2 else (false, (Q q).2.1, [])) := by
  intro e he q C M hf hq hqn hk hC
  obtain ⟨e, rfl⟩ : ∃ d, e = d + 1 := ⟨e - 1, by omega⟩
  have p1 := hp.1
  have p2 := hp.2.1
  have p3 := hp.2.2.1
  have e10 : ¬ nI 1 = nI 0 := by decide +kernel
  have n50 := hf.2.2.2.1
  have l4 : ¬ 4 < lev := by omega
  have L : ∀ r i most q acc (M : Nat → Nat → Int32) (o5 : Option Value), r + i = most → most ≤ 50 → Fx h M p tp B n u → M p 3 = nI q → q ≤ n → Kd M p (C ++ acc) → (C ++ acc).length ≤ q → ∃ M', j_X e 45 39 [some (.ref p), some (.int (nI lev)), some (.int (nI o)), some (.int (nI most)), some (.int (nI i)), o5] [] (FS h M) = some (some (.int (if (lpR B n Q lev r q acc).1 = true then nI 1 else nI 0)), FS h M') ∧ Ro p M M' C (lpR B n Q lev r q acc) := by
    intro r
    induction r with
    | zero =>
      intro i most q acc M o5 hr hm hf hq hqn hk hC
      have e1 : ¬ i < most := by omega
      refine ⟨M, ?_, rf_r, hq, fun _ => hk⟩
      rw [st_45_39]
      simp (disch := omega) only [st_45_0, st_45_1, st_45_2, st_45_5, st_45_6, st_45_7, st_45_10, st_45_11, st_45_12, st_45_13, st_45_14, st_45_15, st_45_16, st_45_19, st_45_22, st_45_23, st_45_24, st_45_25, st_45_26, st_45_29, st_45_30, st_45_33, st_45_35, st_45_36, st_45_37, st_45_41, st_45_42, st_45_45, st_45_46, st_45_49, st_45_52, st_45_53, st_45_56, st_45_57, st_45_60, st_45_62, st_45_63, st_45_63r, st_45_64, st_45_67, st_45_68, st_45_69, st_45_72, st_45_73, st_45_74, st_45_75, st_45_76, st_45_77, st_45_80, st_45_83, st_45_84, st_45_85, st_45_86, st_45_89, st_45_91, st_45_92, st_45_95, st_45_95r, st_45_96, st_45_99, st_45_102, st_45_103, ini_45, fs_cl, fs_len, fs_rf, fs_M, fs_put, fs_cpy, ↓reduceIte, rv_ref, true_or, or_true, true_and, and_true, nI_ltI, ix_nI, nI_clamp, ps_i, ps_n, Option.bind_some, sm_0, sm_1, sm_2, sm_3, sm_4, sto_0, sto_1, sto_2, sto_3, sto_4, sto_5, sto_6, sto_7, sto_8, sto_9, sto_10, sto_11, sto_12, sto_13, sto_14, nlo_n, nlo_i, nlo_r, nlo_0, nlo_l, and_self, or_self, Nat.reduceEqDiff, Nat.reduceLT, Nat.reduceLeDiff, Nat.one_ne_zero, Nat.zero_ne_one, e1]
      rfl
    | succ r ih =>
      intro i most q acc M o5 hr hm hf hq hqn hk hC
      have e1 : i < most := by omega
      have gx := rd_nx hp hf hq hqn (e := e) (by omega)
      have gl := c53 (σ := FS h M) (nx B n q) (e := e) (by omega)
      have ge := lv_eq (x := nx B n q) (by omega : lev < 9)
      unfold lpR
      by_cases c : lvN (nx B n q) = lev
      · rw [if_pos c]
        have f := ge.mpr c
        have hin := nx_in (B := B) (n := n) (q := q) (lvx_lt (by omega))
        obtain ⟨M1, a1, a2, a3, a4⟩ := hQ e (by omega) (q + 1) (C ++ acc) (j_up M p 3 (nI (q + 1))) (Fx_rf hf rf_at) (up_s _ _ _) (by omega) (Kd_at hk) (by omega)
        by_cases c2 : (Q (q + 1)).1 = true
        · rw [if_pos c2] at a1
          rw [if_pos c2]
          obtain ⟨g1, g2, g3⟩ := hG (q + 1) (by omega)
          obtain ⟨g3, g4⟩ := g3 c2
          have hl2 : (C ++ acc ++ (Q (q + 1)).2.2).length + 1 ≤ (Q (q + 1)).2.1 := by
            rw [List.length_append]; omega
          obtain ⟨M2, b1, b2, b3⟩ := rd_add hp (a4 c2) (by omega) (-(bI (nx B n q))) (e := e) (by omega)
          have rf2 : rf p M1 M2 := ⟨fun x _ b c => b3 x b c, fun k _ => by rw [b3 p (by omega) (by omega)]⟩
          rw [List.append_assoc, List.append_assoc, ← List.append_assoc acc] at b2
          obtain ⟨M', d1, d2, d3, d4⟩ := ih (i + 1) most (Q (q + 1)).2.1 (acc ++ (Q (q + 1)).2.2 ++ [-(bI (nx B n q))]) M2 (some (.int (bI (nx B n q)))) (by omega) hm (Fx_rf (Fx_rf (Fx_rf hf rf_at) a2) rf2) (by rw [b3 p (by omega) (by omega)]; exact a3) g2 b2 (by
            rw [← List.append_assoc, ← List.append_assoc, List.length_append, List.length_singleton]; exact hl2)
          refine ⟨M', ?_, rf_t (rf_t (rf_t rf_at a2) rf2) d2, d3, d4⟩
          rw [st_45_39]
          simp (disch := omega) only [st_45_0, st_45_1, st_45_2, st_45_5, st_45_6, st_45_7, st_45_10, st_45_11, st_45_12, st_45_13, st_45_14, st_45_15, st_45_16, st_45_19, st_45_22, st_45_23, st_45_24, st_45_25, st_45_26, st_45_29, st_45_30, st_45_33, st_45_35, st_45_36, st_45_37, st_45_41, st_45_42, st_45_45, st_45_46, st_45_49, st_45_52, st_45_53, st_45_56, st_45_57, st_45_60, st_45_62, st_45_63, st_45_63r, st_45_64, st_45_67, st_45_68, st_45_69, st_45_72, st_45_73, st_45_74, st_45_75, st_45_76, st_45_77, st_45_80, st_45_83, st_45_84, st_45_85, st_45_86, st_45_89, st_45_91, st_45_92, st_45_95, st_45_95r, st_45_96, st_45_99, st_45_102, st_45_103, ini_45, fs_cl, fs_len, fs_rf, fs_M, fs_put, fs_cpy, ↓reduceIte, rv_ref, true_or, or_true, true_and, and_true, nI_ltI, ix_nI, nI_clamp, ps_i, ps_n, Option.bind_some, sm_0, sm_1, sm_2, sm_3, sm_4, sto_0, sto_1, sto_2, sto_3, sto_4, sto_5, sto_6, sto_7, sto_8, sto_9, sto_10, sto_11, sto_12, sto_13, sto_14, nlo_n, nlo_i, nlo_r, nlo_0, nlo_l, and_self, or_self, Nat.reduceEqDiff, Nat.reduceLT, Nat.reduceLeDiff, Nat.one_ne_zero, Nat.zero_ne_one, p1, p2, p3, e1, gx, gl, eq_true f, hq, nI_add, a1, e10, b1, d1]
        · rw [if_neg c2] at a1
          rw [if_neg c2]
          refine ⟨M1, ?_, rf_t rf_at a2, a3, fun e => by cases e⟩
          rw [st_45_39]
          simp (disch := omega) only [st_45_0, st_45_1, st_45_2, st_45_5, st_45_6, st_45_7, st_45_10, st_45_11, st_45_12, st_45_13, st_45_14, st_45_15, st_45_16, st_45_19, st_45_22, st_45_23, st_45_24, st_45_25, st_45_26, st_45_29, st_45_30, st_45_33, st_45_35, st_45_36, st_45_37, st_45_41, st_45_42, st_45_45, st_45_46, st_45_49, st_45_52, st_45_53, st_45_56, st_45_57, st_45_60, st_45_62, st_45_63, st_45_63r, st_45_64, st_45_67, st_45_68, st_45_69, st_45_72, st_45_73, st_45_74, st_45_75, st_45_76, st_45_77, st_45_80, st_45_83, st_45_84, st_45_85, st_45_86, st_45_89, st_45_91, st_45_92, st_45_95, st_45_95r, st_45_96, st_45_99, st_45_102, st_45_103, ini_45, fs_cl, fs_len, fs_rf, fs_M, fs_put, fs_cpy, ↓reduceIte, rv_ref, true_or, or_true, true_and, and_true, nI_ltI, ix_nI, nI_clamp, ps_i, ps_n, Option.bind_some, sm_0, sm_1, sm_2, sm_3, sm_4, sto_0, sto_1, sto_2, sto_3, sto_4, sto_5, sto_6, sto_7, sto_8, sto_9, sto_10, sto_11, sto_12, sto_13, sto_14, nlo_n, nlo_i, nlo_r, nlo_0, nlo_l, and_self, or_self, Nat.reduceEqDiff, Nat.reduceLT, Nat.reduceLeDiff, Nat.one_ne_zero, Nat.zero_ne_one, p1, p2, p3, e1, gx, gl, eq_true f, hq, nI_add, a1]
          rfl
      · rw [if_neg c]
        have f : ¬ lvI (nx B n q) = nI lev := fun e => c (ge.mp e)
        refine ⟨M, ?_, rf_r, hq, fun _ => hk⟩
        rw [st_45_39]
        simp (disch := omega) only [st_45_0, st_45_1, st_45_2, st_45_5, st_45_6, st_45_7, st_45_10, st_45_11, st_45_12, st_45_13, st_45_14, st_45_15, st_45_16, st_45_19, st_45_22, st_45_23, st_45_24, st_45_25, st_45_26, st_45_29, st_45_30, st_45_33, st_45_35, st_45_36, st_45_37, st_45_41, st_45_42, st_45_45, st_45_46, st_45_49, st_45_52, st_45_53, st_45_56, st_45_57, st_45_60, st_45_62, st_45_63, st_45_63r, st_45_64, st_45_67, st_45_68, st_45_69, st_45_72, st_45_73, st_45_74, st_45_75, st_45_76, st_45_77, st_45_80, st_45_83, st_45_84, st_45_85, st_45_86, st_45_89, st_45_91, st_45_92, st_45_95, st_45_95r, st_45_96, st_45_99, st_45_102, st_45_103, ini_45, fs_cl, fs_len, fs_rf, fs_M, fs_put, fs_cpy, ↓reduceIte, rv_ref, true_or, or_true, true_and, and_true, nI_ltI, ix_nI, nI_clamp, ps_i, ps_n, Option.bind_some, sm_0, sm_1, sm_2, sm_3, sm_4, sto_0, sto_1, sto_2, sto_3, sto_4, sto_5, sto_6, sto_7, sto_8, sto_9, sto_10, sto_11, sto_12, sto_13, sto_14, nlo_n, nlo_i, nlo_r, nlo_0, nlo_l, and_self, or_self, Nat.reduceEqDiff, Nat.reduceLT, Nat.reduceLeDiff, Nat.one_ne_zero, Nat.zero_ne_one, p1, e1, gx, gl, f]
  obtain ⟨M1, a1, a2, a3, a4⟩ := hQ e (by omega) q C M hf hq hqn hk hC
  obtain ⟨g1, g2, g3⟩ := hG q hqn
  by_cases c : (Q q).1 = true
  · rw [if_pos c] at a1
    obtain ⟨g3, g4⟩ := g3 c
    simp only [if_pos c]
    by_cases e2 : lev = 2
    · simp only [if_pos e2]
      obtain ⟨M', d1, d2, d3, d4⟩ := L 1 0 1 (Q q).2.1 (Q q).2.2 M1 none (by omega) (by omega) (Fx_rf hf a2) a3 g2 (a4 c) (by rw [List.length_append]; omega)
      refine ⟨M', ?_, rf_t a2 d2, d3, d4⟩
      rw [j_C_eq]
      simp (disch := omega) only [st_45_0, st_45_1, st_45_2, st_45_5, st_45_6, st_45_7, st_45_10, st_45_11, st_45_12, st_45_13, st_45_14, st_45_15, st_45_16, st_45_19, st_45_22, st_45_23, st_45_24, st_45_25, st_45_26, st_45_29, st_45_30, st_45_33, st_45_35, st_45_36, st_45_37, st_45_41, st_45_42, st_45_45, st_45_46, st_45_49, st_45_52, st_45_53, st_45_56, st_45_57, st_45_60, st_45_62, st_45_63, st_45_63r, st_45_64, st_45_67, st_45_68, st_45_69, st_45_72, st_45_73, st_45_74, st_45_75, st_45_76, st_45_77, st_45_80, st_45_83, st_45_84, st_45_85, st_45_86, st_45_89, st_45_91, st_45_92, st_45_95, st_45_95r, st_45_96, st_45_99, st_45_102, st_45_103, ini_45, fs_cl, fs_len, fs_rf, fs_M, fs_put, fs_cpy, ↓reduceIte, rv_ref, true_or, or_true, true_and, and_true, nI_ltI, ix_nI, nI_clamp, ps_i, ps_n, Option.bind_some, sm_0, sm_1, sm_2, sm_3, sm_4, sto_0, sto_1, sto_2, sto_3, sto_4, sto_5, sto_6, sto_7, sto_8, sto_9, sto_10, sto_11, sto_12, sto_13, sto_14, nlo_n, nlo_i, nlo_r, nlo_0, nlo_l, and_self, or_self, Nat.reduceEqDiff, Nat.reduceLT, Nat.reduceLeDiff, Nat.one_ne_zero, Nat.zero_ne_one, p1, l4, nI_add, a1, e10, nI_eq, eq_true e2, d1]
    · simp only [if_neg e2]
      obtain ⟨M', d1, d2, d3, d4⟩ := L 50 0 50 (Q q).2.1 (Q q).2.2 M1 none (by omega) (by omega) (Fx_rf hf a2) a3 g2 (a4 c) (by rw [List.length_append]; omega)
      refine ⟨M', ?_, rf_t a2 d2, d3, d4⟩
      rw [j_C_eq]
      simp (disch := omega) only [st_45_0, st_45_1, st_45_2, st_45_5, st_45_6, st_45_7, st_45_10, st_45_11, st_45_12, st_45_13, st_45_14, st_45_15, st_45_16, st_45_19, st_45_22, st_45_23, st_45_24, st_45_25, st_45_26, st_45_29, st_45_30, st_45_33, st_45_35, st_45_36, st_45_37, st_45_41, st_45_42, st_45_45, st_45_46, st_45_49, st_45_52, st_45_53, st_45_56, st_45_57, st_45_60, st_45_62, st_45_63, st_45_63r, st_45_64, st_45_67, st_45_68, st_45_69, st_45_72, st_45_73, st_45_74, st_45_75, st_45_76, st_45_77, st_45_80, st_45_83, st_45_84, st_45_85, st_45_86, st_45_89, st_45_91, st_45_92, st_45_95, st_45_95r, st_45_96, st_45_99, st_45_102, st_45_103, ini_45, fs_cl, fs_len, fs_rf, fs_M, fs_put, fs_cpy, ↓reduceIte, rv_ref, true_or, or_true, true_and, and_true, nI_ltI, ix_nI, nI_clamp, ps_i, ps_n, Option.bind_some, sm_0, sm_1, sm_2, sm_3, sm_4, sto_0, sto_1, sto_2, sto_3, sto_4, sto_5, sto_6, sto_7, sto_8, sto_9, sto_10, sto_11, sto_12, sto_13, sto_14, nlo_n, nlo_i, nlo_r, nlo_0, nlo_l, and_self, or_self, Nat.reduceEqDiff, Nat.reduceLT, Nat.reduceLeDiff, Nat.one_ne_zero, Nat.zero_ne_one, p1, l4, nI_add, a1, e10, nI_eq, e2, d1]
  · rw [if_neg c] at a1
    simp only [if_neg c]
    refine ⟨M1, ?_, a2, a3, fun e => by cases e⟩
    rw [j_C_eq]
    simp (disch := omega) only [st_45_0, st_45_1, st_45_2, st_45_5, st_45_6, st_45_7, st_45_10, st_45_11, st_45_12, st_45_13, st_45_14, st_45_15, st_45_16, st_45_19, st_45_22, st_45_23, st_45_24, st_45_25, st_45_26, st_45_29, st_45_30, st_45_33, st_45_35, st_45_36, st_45_37, st_45_41, st_45_42, st_45_45, st_45_46, st_45_49, st_45_52, st_45_53, st_45_56, st_45_57, st_45_60, st_45_62, st_45_63, st_45_63r, st_45_64, st_45_67, st_45_68, st_45_69, st_45_72, st_45_73, st_45_74, st_45_75, st_45_76, st_45_77, st_45_80, st_45_83, st_45_84, st_45_85, st_45_86, st_45_89, st_45_91, st_45_92, st_45_95, st_45_95r, st_45_96, st_45_99, st_45_102, st_45_103, ini_45, fs_cl, fs_len, fs_rf, fs_M, fs_put, fs_cpy, ↓reduceIte, rv_ref, true_or, or_true, true_and, and_true, nI_ltI, ix_nI, nI_clamp, ps_i, ps_n, Option.bind_some, sm_0, sm_1, sm_2, sm_3, sm_4, sto_0, sto_1, sto_2, sto_3, sto_4, sto_5, sto_6, sto_7, sto_8, sto_9, sto_10, sto_11, sto_12, sto_13, sto_14, nlo_n, nlo_i, nlo_r, nlo_0, nlo_l, and_self, or_self, Nat.reduceEqDiff, Nat.reduceLT, Nat.reduceLeDiff, Nat.one_ne_zero, Nat.zero_ne_one, p1, l4, nI_add, a1]
    rfl
theorem ch_m (hp : Rd h p) {D o : Nat} {P : Nat → tR} (hD : 2 ≤ D) (hG : Gd n P) (hP : PtOk h p tp B n u D o P) : ∀ m, m ≤ 5 → ChOk h p tp B n u (D + 1 + m) (5 - m) o (chR B n P m) := by
  intro m
  induction m with
  | zero => intro _; exact ch_0 hp hP
  | succ m ih =>
    intro hm
    have e1 : 5 - m = 4 - m + 1 := by omega
    have h1 := ih (by omega)
    rw [e1] at h1
    have h2 := ch_s hp (by omega) (by omega) (ch_gd hG m) h1
    rw [show 5 - (m + 1) = 4 - m by omega]
    exact h2
/-- no bracket -/
theorem pt_b (hp : Rd h p) {o e q : Nat} {C : List Int32} (he : 4 ≤ e) (hf : Fx h M p tp B n u) (hq : M p 3 = nI q) (hqn : q ≤ n) (hk : Kd M p C) (hC : C.length ≤ q) (ho : o ≤ 5) (hb : ¬ (nx B n q = 33 ∨ nx B n q = 40) ∨ o = 5) : ∃ M', j_C e 46 [.ref p, .int (nI o)] (FS h M) = some (some (.int (if (bsR B n u q).1 = true then nI 1 else nI 0)), FS h M') ∧ Ro p M M' C (bsR B n u q) := by
  obtain ⟨e, rfl⟩ : ∃ d, e = d + 1 := ⟨e - 1, by omega⟩
  have p1 := hp.1
  have p2 := hp.2.1
  have p3 := hp.2.2.1
  have e10 : ¬ nI 1 = nI 0 := by decide +kernel
  have n50 := hf.2.2.2.1
  have u2 := hf.2.2.2.2.1
  have hM2 := hf.2.2.2.2.2.2.1
  have hB := Fx_B hf
  have xl := nx_le hB q
  have gx := rd_nx hp hf hq hqn (e := e) (by omega)
  have gd := c52 (σ := FS h M) (nx B n q) xl (e := e) (by omega)
  have gn := nm_v u2 xl
  rw [← hM2] at gn
  unfold bsR
  by_cases c : dgt (nx B n q) = true
  · rw [if_pos c] at gd
    rw [if_pos c]
    have c2 := dgt_t.mp c
    have hin := nx_in (B := B) (n := n) (q := q) (by omega)
    obtain ⟨M', a1, a2, a3, a4⟩ := c49 hp hB hf hq hin hk hC (e := e) (by omega)
    refine ⟨M', ?_, a2, a3, fun _ => a4⟩
    rw [j_C_eq]
    simp (disch := omega) only [st_46_0, st_46_1, st_46_4, st_46_5, st_46_6, st_46_9, st_46_12, st_46_13, st_46_16, st_46_17, st_46_18, st_46_19, st_46_21, st_46_24, st_46_25, st_46_27, st_46_30, st_46_31, st_46_32, st_46_35, st_46_36, st_46_38, st_46_41, st_46_42, st_46_43, st_46_44, st_46_45, st_46_48, st_46_51, st_46_54, st_46_55, st_46_56, st_46_57, st_46_58, st_46_61, st_46_64, st_46_65, st_46_68, st_46_69, st_46_70, st_46_71, st_46_72, st_46_75, st_46_76, st_46_77, st_46_80, st_46_81, st_46_82, st_46_83, st_46_83r, st_46_84, st_46_87, st_46_88, st_46_89, st_46_92, st_46_93, st_46_96, st_46_97, st_46_98, st_46_99, st_46_102, st_46_102r, st_46_103, st_46_104, ini_46, fs_cl, fs_len, fs_rf, fs_M, fs_put, fs_cpy, ↓reduceIte, rv_ref, true_or, or_true, true_and, and_true, nI_ltI, ix_nI, nI_clamp, ps_i, ps_n, Option.bind_some, sm_0, sm_1, sm_2, sm_3, sm_4, sto_0, sto_1, sto_2, sto_3, sto_4, sto_5, sto_6, sto_7, sto_8, sto_9, sto_10, sto_11, sto_12, sto_13, sto_14, nlo_n, nlo_i, nlo_r, nlo_0, nlo_l, and_self, or_self, Nat.reduceEqDiff, Nat.reduceLT, Nat.reduceLeDiff, Nat.one_ne_zero, Nat.zero_ne_one, p1, gx, gd, e10, a1]
  · rw [if_neg c] at gd
    rw [if_neg c]
    by_cases c2 : nx B n q = 33 ∨ nx B n q = 40
    · rw [if_pos c2]
      have o5 : o = 5 := hb.resolve_left (fun hh => hh c2)
      have e5 : ¬ 5 < 5 := by omega
      subst o5
      refine ⟨M, ?_, rf_r, hq, fun e => by cases e⟩
      rw [j_C_eq]
      by_cases c3 : nx B n q = 33
      · simp (disch := omega) only [st_46_0, st_46_1, st_46_4, st_46_5, st_46_6, st_46_9, st_46_12, st_46_13, st_46_16, st_46_17, st_46_18, st_46_19, st_46_21, st_46_24, st_46_25, st_46_27, st_46_30, st_46_31, st_46_32, st_46_35, st_46_36, st_46_38, st_46_41, st_46_42, st_46_43, st_46_44, st_46_45, st_46_48, st_46_51, st_46_54, st_46_55, st_46_56, st_46_57, st_46_58, st_46_61, st_46_64, st_46_65, st_46_68, st_46_69, st_46_70, st_46_71, st_46_72, st_46_75, st_46_76, st_46_77, st_46_80, st_46_81, st_46_82, st_46_83, st_46_83r, st_46_84, st_46_87, st_46_88, st_46_89, st_46_92, st_46_93, st_46_96, st_46_97, st_46_98, st_46_99, st_46_102, st_46_102r, st_46_103, st_46_104, ini_46, fs_cl, fs_len, fs_rf, fs_M, fs_put, fs_cpy, ↓reduceIte, rv_ref, true_or, or_true, true_and, and_true, nI_ltI, ix_nI, nI_clamp, ps_i, ps_n, Option.bind_some, sm_0, sm_1, sm_2, sm_3, sm_4, sto_0, sto_1, sto_2, sto_3, sto_4, sto_5, sto_6, sto_7, sto_8, sto_9, sto_10, sto_11, sto_12, sto_13, sto_14, nlo_n, nlo_i, nlo_r, nlo_0, nlo_l, and_self, or_self, Nat.reduceEqDiff, Nat.reduceLT, Nat.reduceLeDiff, Nat.one_ne_zero, Nat.zero_ne_one, p1, gx, gd, bI_eq, eq_true c3, e5]
        rfl
      · have c4 := c2.resolve_left c3
        simp (disch := omega) only [st_46_0, st_46_1, st_46_4, st_46_5, st_46_6, st_46_9, st_46_12, st_46_13, st_46_16, st_46_17, st_46_18, st_46_19, st_46_21, st_46_24, st_46_25, st_46_27, st_46_30, st_46_31, st_46_32, st_46_35, st_46_36, st_46_38, st_46_41, st_46_42, st_46_43, st_46_44, st_46_45, st_46_48, st_46_51, st_46_54, st_46_55, st_46_56, st_46_57, st_46_58, st_46_61, st_46_64, st_46_65, st_46_68, st_46_69, st_46_70, st_46_71, st_46_72, st_46_75, st_46_76, st_46_77, st_46_80, st_46_81, st_46_82, st_46_83, st_46_83r, st_46_84, st_46_87, st_46_88, st_46_89, st_46_92, st_46_93, st_46_96, st_46_97, st_46_98, st_46_99, st_46_102, st_46_102r, st_46_103, st_46_104, ini_46, fs_cl, fs_len, fs_rf, fs_M, fs_put, fs_cpy, ↓reduceIte, rv_ref, true_or, or_true, true_and, and_true, nI_ltI, ix_nI, nI_clamp, ps_i, ps_n, Option.bind_some, sm_0, sm_1, sm_2, sm_3, sm_4, sto_0, sto_1, sto_2, sto_3, sto_4, sto_5, sto_6, sto_7, sto_8, sto_9, sto_10, sto_11, sto_12, sto_13, sto_14, nlo_n, nlo_i, nlo_r, nlo_0, nlo_l, and_self, or_self, Nat.reduceEqDiff, Nat.reduceLT, Nat.reduceLeDiff, Nat.one_ne_zero, Nat.zero_ne_one, p1, gx, gd, bI_eq, c3, eq_true c4, e5]
        rfl
    · rw [if_neg c2]
      have c3 : ¬ nx B n q = 33 := fun e => c2 (.inl e)
      have c4 : ¬ nx B n q = 40 := fun e => c2 (.inr e)
      by_cases c5 : nmN u (nx B n q) < 3
      · rw [if_pos c5]
        have hin := nx_in (nm_lt c5)
        unfold nmI at gn
        rw [if_pos c5] at gn
        have f5 : ¬ nI (nmN u (nx B n q)) < nI 0 := nI_nlt (by omega) (by omega)
        obtain ⟨M', b1, b2, b3⟩ := rd_add hp (Kd_at (v := nI (q + 1)) (k := 3) hk) (by omega) (-1 - nI (nmN u (nx B n q))) (e := e) (by omega)
        have rf2 : rf p (j_up M p 3 (nI (q + 1))) M' := ⟨fun x _ b c => b3 x b c, fun k _ => by rw [b3 p (by omega) (by omega)]⟩
        refine ⟨M', ?_, rf_t rf_at rf2, ?_, fun _ => b2⟩
        · rw [j_C_eq]
          simp (disch := omega) only [st_46_0, st_46_1, st_46_4, st_46_5, st_46_6, st_46_9, st_46_12, st_46_13, st_46_16, st_46_17, st_46_18, st_46_19, st_46_21, st_46_24, st_46_25, st_46_27, st_46_30, st_46_31, st_46_32, st_46_35, st_46_36, st_46_38, st_46_41, st_46_42, st_46_43, st_46_44, st_46_45, st_46_48, st_46_51, st_46_54, st_46_55, st_46_56, st_46_57, st_46_58, st_46_61, st_46_64, st_46_65, st_46_68, st_46_69, st_46_70, st_46_71, st_46_72, st_46_75, st_46_76, st_46_77, st_46_80, st_46_81, st_46_82, st_46_83, st_46_83r, st_46_84, st_46_87, st_46_88, st_46_89, st_46_92, st_46_93, st_46_96, st_46_97, st_46_98, st_46_99, st_46_102, st_46_102r, st_46_103, st_46_104, ini_46, fs_cl, fs_len, fs_rf, fs_M, fs_put, fs_cpy, ↓reduceIte, rv_ref, true_or, or_true, true_and, and_true, nI_ltI, ix_nI, nI_clamp, ps_i, ps_n, Option.bind_some, sm_0, sm_1, sm_2, sm_3, sm_4, sto_0, sto_1, sto_2, sto_3, sto_4, sto_5, sto_6, sto_7, sto_8, sto_9, sto_10, sto_11, sto_12, sto_13, sto_14, nlo_n, nlo_i, nlo_r, nlo_0, nlo_l, and_self, or_self, Nat.reduceEqDiff, Nat.reduceLT, Nat.reduceLeDiff, Nat.one_ne_zero, Nat.zero_ne_one, p1, p2, p3, gx, gd, bI_eq, c3, c4, gn, f5, hq, nI_add, b1]
        · rw [b3 p (by omega) (by omega)]; exact up_s _ _ _
      · rw [if_neg c5]
        unfold nmI at gn
        rw [if_neg c5] at gn
        have f5 : (-1 : Int32) < nI 0 := by decide +kernel
        refine ⟨M, ?_, rf_r, hq, fun e => by cases e⟩
        rw [j_C_eq]
        simp (disch := omega) only [st_46_0, st_46_1, st_46_4, st_46_5, st_46_6, st_46_9, st_46_12, st_46_13, st_46_16, st_46_17, st_46_18, st_46_19, st_46_21, st_46_24, st_46_25, st_46_27, st_46_30, st_46_31, st_46_32, st_46_35, st_46_36, st_46_38, st_46_41, st_46_42, st_46_43, st_46_44, st_46_45, st_46_48, st_46_51, st_46_54, st_46_55, st_46_56, st_46_57, st_46_58, st_46_61, st_46_64, st_46_65, st_46_68, st_46_69, st_46_70, st_46_71, st_46_72, st_46_75, st_46_76, st_46_77, st_46_80, st_46_81, st_46_82, st_46_83, st_46_83r, st_46_84, st_46_87, st_46_88, st_46_89, st_46_92, st_46_93, st_46_96, st_46_97, st_46_98, st_46_99, st_46_102, st_46_102r, st_46_103, st_46_104, ini_46, fs_cl, fs_len, fs_rf, fs_M, fs_put, fs_cpy, ↓reduceIte, rv_ref, true_or, or_true, true_and, and_true, nI_ltI, ix_nI, nI_clamp, ps_i, ps_n, Option.bind_some, sm_0, sm_1, sm_2, sm_3, sm_4, sto_0, sto_1, sto_2, sto_3, sto_4, sto_5, sto_6, sto_7, sto_8, sto_9, sto_10, sto_11, sto_12, sto_13, sto_14, nlo_n, nlo_i, nlo_r, nlo_0, nlo_l, and_self, or_self, Nat.reduceEqDiff, Nat.reduceLT, Nat.reduceLeDiff, Nat.one_ne_zero, Nat.zero_ne_one, p1, gx, gd, bI_eq, c3, c4, gn, f5]
        rfl
theorem pt_k (hp : Rd h p) : ∀ k, k ≤ 5 → PtOk h p tp B n u (8 * k + 4) (5 - k) (ptR B n u k) := by
  intro k
  induction k with
  | zero =>
    intro _ e he q C M hf hq hqn hk hC
    exact pt_b hp (by omega) hf hq hqn hk hC (by omega) (.inr rfl)
  | succ k ih =>
    intro hk5 e he q C M hf hq hqn hk hC
    have hP := ih (by omega)
    have hQ := ch_m hp (by omega) (pt_gd k) hP 5 (by omega)
    have n50 := hf.2.2.2.1
    unfold ptR
    have p1 := hp.1
    have p2 := hp.2.1
    have p3 := hp.2.2.1
    have e10 : ¬ nI 1 = nI 0 := by decide +kernel
    have hB := Fx_B hf
    have o5 : 5 - (k + 1) < 5 := by omega
    have ok : 5 - (k + 1) + 1 = 5 - k := by omega
    by_cases c1 : nx B n q = 33
    · rw [if_pos c1]
      obtain ⟨e, rfl⟩ : ∃ d, e = d + 2 := ⟨e - 2, by omega⟩
      have gx := rd_nx hp hf hq hqn (e := e + 1) (by omega)
      have gd := c52 (σ := FS h M) (nx B n q) (nx_le hB q) (e := e + 1) (by omega)
      rw [if_neg (by rw [dgt_t]; omega)] at gd
      have hin := nx_in (B := B) (n := n) (q := q) (by omega)
      obtain ⟨M1, a1, a2, a3, a4⟩ := hP e (by omega) (q + 1) C (j_up M p 3 (nI (q + 1))) (Fx_rf hf rf_at) (up_s _ _ _) (by omega) (Kd_at hk) (by omega)
      by_cases c2 : (ptR B n u k (q + 1)).1 = true
      · rw [if_pos c2] at a1
        rw [if_pos c2]
        obtain ⟨g1, g2, g3⟩ := pt_gd (B := B) (u := u) k (q + 1) (by omega : q + 1 ≤ n)
        obtain ⟨g3, g4⟩ := g3 c2
        obtain ⟨M', b1, b2, b3⟩ := rd_add hp (a4 c2) (by rw [List.length_append]; omega) (-33) (e := e) (by omega)
        have rf2 : rf p M1 M' := ⟨fun x _ b c => b3 x b c, fun k _ => by rw [b3 p (by omega) (by omega)]⟩
        have g47 : j_C (e + 1) 47 [.ref p, .int (nI (5 - k))] (FS h M) = some (some (.int (nI 1)), FS h M') := by
          rw [j_C_eq]
          simp (disch := omega) only [st_47_0, st_47_1, st_47_1r, st_47_2, st_47_5, st_47_6, st_47_7, st_47_10, st_47_11, st_47_12, st_47_15, st_47_18, st_47_19, st_47_20, st_47_21, st_47_24, st_47_26, st_47_29, st_47_29r, st_47_30, st_47_31, ini_47, fs_cl, fs_len, fs_rf, fs_M, fs_put, fs_cpy, ↓reduceIte, rv_ref, true_or, or_true, true_and, and_true, nI_ltI, ix_nI, nI_clamp, ps_i, ps_n, Option.bind_some, sm_0, sm_1, sm_2, sm_3, sm_4, sto_0, sto_1, sto_2, sto_3, sto_4, sto_5, sto_6, sto_7, sto_8, sto_9, sto_10, sto_11, sto_12, sto_13, sto_14, nlo_n, nlo_i, nlo_r, nlo_0, nlo_l, and_self, or_self, Nat.reduceEqDiff, Nat.reduceLT, Nat.reduceLeDiff, Nat.one_ne_zero, Nat.zero_ne_one, p1, p2, p3, hq, nI_add, a1, e10, b1]
        refine ⟨M', ?_, rf_t (rf_t rf_at a2) rf2, ?_, fun _ => ?_⟩
        · rw [j_C_eq]
          simp (disch := omega) only [st_46_0, st_46_1, st_46_4, st_46_5, st_46_6, st_46_9, st_46_12, st_46_13, st_46_16, st_46_17, st_46_18, st_46_19, st_46_21, st_46_24, st_46_25, st_46_27, st_46_30, st_46_31, st_46_32, st_46_35, st_46_36, st_46_38, st_46_41, st_46_42, st_46_43, st_46_44, st_46_45, st_46_48, st_46_51, st_46_54, st_46_55, st_46_56, st_46_57, st_46_58, st_46_61, st_46_64, st_46_65, st_46_68, st_46_69, st_46_70, st_46_71, st_46_72, st_46_75, st_46_76, st_46_77, st_46_80, st_46_81, st_46_82, st_46_83, st_46_83r, st_46_84, st_46_87, st_46_88, st_46_89, st_46_92, st_46_93, st_46_96, st_46_97, st_46_98, st_46_99, st_46_102, st_46_102r, st_46_103, st_46_104, ini_46, fs_cl, fs_len, fs_rf, fs_M, fs_put, fs_cpy, ↓reduceIte, rv_ref, true_or, or_true, true_and, and_true, nI_ltI, ix_nI, nI_clamp, ps_i, ps_n, Option.bind_some, sm_0, sm_1, sm_2, sm_3, sm_4, sto_0, sto_1, sto_2, sto_3, sto_4, sto_5, sto_6, sto_7, sto_8, sto_9, sto_10, sto_11, sto_12, sto_13, sto_14, nlo_n, nlo_i, nlo_r, nlo_0, nlo_l, and_self, or_self, Nat.reduceEqDiff, Nat.reduceLT, Nat.reduceLeDiff, Nat.one_ne_zero, Nat.zero_ne_one, p1, gx, gd, bI_eq, eq_true c1, o5, nI_add, ok, g47, e10]
        · rw [b3 p (by omega) (by omega)]; exact a3
        · rw [List.append_assoc] at b2; exact b2
      · rw [if_neg c2] at a1
        rw [if_neg c2]
        have g47 : j_C (e + 1) 47 [.ref p, .int (nI (5 - k))] (FS h M) = some (some (.int (nI 0)), FS h M1) := by
          rw [j_C_eq]
          simp (disch := omega) only [st_47_0, st_47_1, st_47_1r, st_47_2, st_47_5, st_47_6, st_47_7, st_47_10, st_47_11, st_47_12, st_47_15, st_47_18, st_47_19, st_47_20, st_47_21, st_47_24, st_47_26, st_47_29, st_47_29r, st_47_30, st_47_31, ini_47, fs_cl, fs_len, fs_rf, fs_M, fs_put, fs_cpy, ↓reduceIte, rv_ref, true_or, or_true, true_and, and_true, nI_ltI, ix_nI, nI_clamp, ps_i, ps_n, Option.bind_some, sm_0, sm_1, sm_2, sm_3, sm_4, sto_0, sto_1, sto_2, sto_3, sto_4, sto_5, sto_6, sto_7, sto_8, sto_9, sto_10, sto_11, sto_12, sto_13, sto_14, nlo_n, nlo_i, nlo_r, nlo_0, nlo_l, and_self, or_self, Nat.reduceEqDiff, Nat.reduceLT, Nat.reduceLeDiff, Nat.one_ne_zero, Nat.zero_ne_one, p1, p2, p3, hq, nI_add, a1]
        refine ⟨M1, ?_, rf_t rf_at a2, a3, fun e => by cases e⟩
        rw [j_C_eq]
        simp (disch := omega) only [st_46_0, st_46_1, st_46_4, st_46_5, st_46_6, st_46_9, st_46_12, st_46_13, st_46_16, st_46_17, st_46_18, st_46_19, st_46_21, st_46_24, st_46_25, st_46_27, st_46_30, st_46_31, st_46_32, st_46_35, st_46_36, st_46_38, st_46_41, st_46_42, st_46_43, st_46_44, st_46_45, st_46_48, st_46_51, st_46_54, st_46_55, st_46_56, st_46_57, st_46_58, st_46_61, st_46_64, st_46_65, st_46_68, st_46_69, st_46_70, st_46_71, st_46_72, st_46_75, st_46_76, st_46_77, st_46_80, st_46_81, st_46_82, st_46_83, st_46_83r, st_46_84, st_46_87, st_46_88, st_46_89, st_46_92, st_46_93, st_46_96, st_46_97, st_46_98, st_46_99, st_46_102, st_46_102r, st_46_103, st_46_104, ini_46, fs_cl, fs_len, fs_rf, fs_M, fs_put, fs_cpy, ↓reduceIte, rv_ref, true_or, or_true, true_and, and_true, nI_ltI, ix_nI, nI_clamp, ps_i, ps_n, Option.bind_some, sm_0, sm_1, sm_2, sm_3, sm_4, sto_0, sto_1, sto_2, sto_3, sto_4, sto_5, sto_6, sto_7, sto_8, sto_9, sto_10, sto_11, sto_12, sto_13, sto_14, nlo_n, nlo_i, nlo_r, nlo_0, nlo_l, and_self, or_self, Nat.reduceEqDiff, Nat.reduceLT, Nat.reduceLeDiff, Nat.one_ne_zero, Nat.zero_ne_one, p1, gx, gd, bI_eq, eq_true c1, o5, nI_add, ok, g47]
        rfl
    · rw [if_neg c1]
      by_cases c2 : nx B n q = 40
      · rw [if_pos c2]
        obtain ⟨e, rfl⟩ : ∃ d, e = d + 2 := ⟨e - 2, by omega⟩
        have gx := rd_nx hp hf hq hqn (e := e + 1) (by omega)
        have gd := c52 (σ := FS h M) (nx B n q) (nx_le hB q) (e := e + 1) (by omega)
        rw [if_neg (by rw [dgt_t]; omega)] at gd
        have hin := nx_in (B := B) (n := n) (q := q) (by omega)
        obtain ⟨M1, a1, a2, a3, a4⟩ := hQ e (by omega) (q + 1) C (j_up M p 3 (nI (q + 1))) (Fx_rf hf rf_at) (up_s _ _ _) (by omega) (Kd_at hk) (by omega)
        rw [show 5 - 5 = 0 by omega] at a1
        obtain ⟨g1, g2, g3⟩ := ch_gd (B := B) (pt_gd (B := B) (u := u) k) 5 (q + 1) (by omega : q + 1 ≤ n)
        have gx2 := rd_nx hp (Fx_rf (Fx_rf hf rf_at) a2) a3 g2 (e := e) (by omega)
        by_cases c3 : (chR B n (ptR B n u k) 5 (q + 1)).1 = true
        · rw [if_pos c3] at a1
          by_cases c4 : nx B n (chR B n (ptR B n u k) 5 (q + 1)).2.1 = 41
          · rw [if_pos (show (chR B n (ptR B n u k) 5 (q + 1)).1 = true ∧ nx B n (chR B n (ptR B n u k) 5 (q + 1)).2.1 = 41 from ⟨c3, c4⟩)]
            have g48 : j_C (e + 1) 48 [.ref p, .int (nI (5 - k))] (FS h M) = some (some (.int (nI 1)), FS h (j_up M1 p 3 (nI ((chR B n (ptR B n u k) 5 (q + 1)).2.1 + 1)))) := by
              rw [j_C_eq]
              simp (disch := omega) only [st_48_0, st_48_1, st_48_1r, st_48_2, st_48_5, st_48_6, st_48_7, st_48_10, st_48_11, st_48_12, st_48_13, st_48_16, st_48_19, st_48_20, st_48_23, st_48_25, st_48_28, st_48_29, st_48_30, st_48_31, st_48_31r, st_48_32, st_48_35, st_48_36, st_48_37, st_48_40, st_48_41, ini_48, fs_cl, fs_len, fs_rf, fs_M, fs_put, fs_cpy, ↓reduceIte, rv_ref, true_or, or_true, true_and, and_true, nI_ltI, ix_nI, nI_clamp, ps_i, ps_n, Option.bind_some, sm_0, sm_1, sm_2, sm_3, sm_4, sto_0, sto_1, sto_2, sto_3, sto_4, sto_5, sto_6, sto_7, sto_8, sto_9, sto_10, sto_11, sto_12, sto_13, sto_14, nlo_n, nlo_i, nlo_r, nlo_0, nlo_l, and_self, or_self, Nat.reduceEqDiff, Nat.reduceLT, Nat.reduceLeDiff, Nat.one_ne_zero, Nat.zero_ne_one, p1, hq, nI_add, a1, e10, gx2, bI_eq, eq_true c4, a3]
            refine ⟨_, ?_, rf_t (rf_t rf_at a2) rf_at, up_s _ _ _, fun _ => Kd_at (a4 c3)⟩
            rw [j_C_eq]
            simp (disch := omega) only [st_46_0, st_46_1, st_46_4, st_46_5, st_46_6, st_46_9, st_46_12, st_46_13, st_46_16, st_46_17, st_46_18, st_46_19, st_46_21, st_46_24, st_46_25, st_46_27, st_46_30, st_46_31, st_46_32, st_46_35, st_46_36, st_46_38, st_46_41, st_46_42, st_46_43, st_46_44, st_46_45, st_46_48, st_46_51, st_46_54, st_46_55, st_46_56, st_46_57, st_46_58, st_46_61, st_46_64, st_46_65, st_46_68, st_46_69, st_46_70, st_46_71, st_46_72, st_46_75, st_46_76, st_46_77, st_46_80, st_46_81, st_46_82, st_46_83, st_46_83r, st_46_84, st_46_87, st_46_88, st_46_89, st_46_92, st_46_93, st_46_96, st_46_97, st_46_98, st_46_99, st_46_102, st_46_102r, st_46_103, st_46_104, ini_46, fs_cl, fs_len, fs_rf, fs_M, fs_put, fs_cpy, ↓reduceIte, rv_ref, true_or, or_true, true_and, and_true, nI_ltI, ix_nI, nI_clamp, ps_i, ps_n, Option.bind_some, sm_0, sm_1, sm_2, sm_3, sm_4, sto_0, sto_1, sto_2, sto_3, sto_4, sto_5, sto_6, sto_7, sto_8, sto_9, sto_10, sto_11, sto_12, sto_13, sto_14, nlo_n, nlo_i, nlo_r, nlo_0, nlo_l, and_self, or_self, Nat.reduceEqDiff, Nat.reduceLT, Nat.reduceLeDiff, Nat.one_ne_zero, Nat.zero_ne_one, p1, gx, gd, bI_eq, c1, eq_true c2, o5, nI_add, ok, g48, e10]
          · rw [if_neg (show ¬ ((chR B n (ptR B n u k) 5 (q + 1)).1 = true ∧ nx B n (chR B n (ptR B n u k) 5 (q + 1)).2.1 = 41) from fun hh => c4 hh.2)]
            have g48 : j_C (e + 1) 48 [.ref p, .int (nI (5 - k))] (FS h M) = some (some (.int (nI 0)), FS h M1) := by
              rw [j_C_eq]
              simp (disch := omega) only [st_48_0, st_48_1, st_48_1r, st_48_2, st_48_5, st_48_6, st_48_7, st_48_10, st_48_11, st_48_12, st_48_13, st_48_16, st_48_19, st_48_20, st_48_23, st_48_25, st_48_28, st_48_29, st_48_30, st_48_31, st_48_31r, st_48_32, st_48_35, st_48_36, st_48_37, st_48_40, st_48_41, ini_48, fs_cl, fs_len, fs_rf, fs_M, fs_put, fs_cpy, ↓reduceIte, rv_ref, true_or, or_true, true_and, and_true, nI_ltI, ix_nI, nI_clamp, ps_i, ps_n, Option.bind_some, sm_0, sm_1, sm_2, sm_3, sm_4, sto_0, sto_1, sto_2, sto_3, sto_4, sto_5, sto_6, sto_7, sto_8, sto_9, sto_10, sto_11, sto_12, sto_13, sto_14, nlo_n, nlo_i, nlo_r, nlo_0, nlo_l, and_self, or_self, Nat.reduceEqDiff, Nat.reduceLT, Nat.reduceLeDiff, Nat.one_ne_zero, Nat.zero_ne_one, p1, hq, nI_add, a1, e10, gx2, bI_eq, c4]
            refine ⟨M1, ?_, rf_t rf_at a2, a3, fun e => by cases e⟩
            rw [j_C_eq]
            simp (disch := omega) only [st_46_0, st_46_1, st_46_4, st_46_5, st_46_6, st_46_9, st_46_12, st_46_13, st_46_16, st_46_17, st_46_18, st_46_19, st_46_21, st_46_24, st_46_25, st_46_27, st_46_30, st_46_31, st_46_32, st_46_35, st_46_36, st_46_38, st_46_41, st_46_42, st_46_43, st_46_44, st_46_45, st_46_48, st_46_51, st_46_54, st_46_55, st_46_56, st_46_57, st_46_58, st_46_61, st_46_64, st_46_65, st_46_68, st_46_69, st_46_70, st_46_71, st_46_72, st_46_75, st_46_76, st_46_77, st_46_80, st_46_81, st_46_82, st_46_83, st_46_83r, st_46_84, st_46_87, st_46_88, st_46_89, st_46_92, st_46_93, st_46_96, st_46_97, st_46_98, st_46_99, st_46_102, st_46_102r, st_46_103, st_46_104, ini_46, fs_cl, fs_len, fs_rf, fs_M, fs_put, fs_cpy, ↓reduceIte, rv_ref, true_or, or_true, true_and, and_true, nI_ltI, ix_nI, nI_clamp, ps_i, ps_n, Option.bind_some, sm_0, sm_1, sm_2, sm_3, sm_4, sto_0, sto_1, sto_2, sto_3, sto_4, sto_5, sto_6, sto_7, sto_8, sto_9, sto_10, sto_11, sto_12, sto_13, sto_14, nlo_n, nlo_i, nlo_r, nlo_0, nlo_l, and_self, or_self, Nat.reduceEqDiff, Nat.reduceLT, Nat.reduceLeDiff, Nat.one_ne_zero, Nat.zero_ne_one, p1, gx, gd, bI_eq, c1, eq_true c2, o5, nI_add, ok, g48]
            rfl
        · rw [if_neg c3] at a1
          rw [if_neg (show ¬ ((chR B n (ptR B n u k) 5 (q + 1)).1 = true ∧ nx B n (chR B n (ptR B n u k) 5 (q + 1)).2.1 = 41) from fun hh => c3 hh.1)]
          have g48 : j_C (e + 1) 48 [.ref p, .int (nI (5 - k))] (FS h M) = some (some (.int (nI 0)), FS h M1) := by
            rw [j_C_eq]
            simp (disch := omega) only [st_48_0, st_48_1, st_48_1r, st_48_2, st_48_5, st_48_6, st_48_7, st_48_10, st_48_11, st_48_12, st_48_13, st_48_16, st_48_19, st_48_20, st_48_23, st_48_25, st_48_28, st_48_29, st_48_30, st_48_31, st_48_31r, st_48_32, st_48_35, st_48_36, st_48_37, st_48_40, st_48_41, ini_48, fs_cl, fs_len, fs_rf, fs_M, fs_put, fs_cpy, ↓reduceIte, rv_ref, true_or, or_true, true_and, and_true, nI_ltI, ix_nI, nI_clamp, ps_i, ps_n, Option.bind_some, sm_0, sm_1, sm_2, sm_3, sm_4, sto_0, sto_1, sto_2, sto_3, sto_4, sto_5, sto_6, sto_7, sto_8, sto_9, sto_10, sto_11, sto_12, sto_13, sto_14, nlo_n, nlo_i, nlo_r, nlo_0, nlo_l, and_self, or_self, Nat.reduceEqDiff, Nat.reduceLT, Nat.reduceLeDiff, Nat.one_ne_zero, Nat.zero_ne_one, p1, hq, nI_add, a1]
          refine ⟨M1, ?_, rf_t rf_at a2, a3, fun e => by cases e⟩
          rw [j_C_eq]
          simp (disch := omega) only [st_46_0, st_46_1, st_46_4, st_46_5, st_46_6, st_46_9, st_46_12, st_46_13, st_46_16, st_46_17, st_46_18, st_46_19, st_46_21, st_46_24, st_46_25, st_46_27, st_46_30, st_46_31, st_46_32, st_46_35, st_46_36, st_46_38, st_46_41, st_46_42, st_46_43, st_46_44, st_46_45, st_46_48, st_46_51, st_46_54, st_46_55, st_46_56, st_46_57, st_46_58, st_46_61, st_46_64, st_46_65, st_46_68, st_46_69, st_46_70, st_46_71, st_46_72, st_46_75, st_46_76, st_46_77, st_46_80, st_46_81, st_46_82, st_46_83, st_46_83r, st_46_84, st_46_87, st_46_88, st_46_89, st_46_92, st_46_93, st_46_96, st_46_97, st_46_98, st_46_99, st_46_102, st_46_102r, st_46_103, st_46_104, ini_46, fs_cl, fs_len, fs_rf, fs_M, fs_put, fs_cpy, ↓reduceIte, rv_ref, true_or, or_true, true_and, and_true, nI_ltI, ix_nI, nI_clamp, ps_i, ps_n, Option.bind_some, sm_0, sm_1, sm_2, sm_3, sm_4, sto_0, sto_1, sto_2, sto_3, sto_4, sto_5, sto_6, sto_7, sto_8, sto_9, sto_10, sto_11, sto_12, sto_13, sto_14, nlo_n, nlo_i, nlo_r, nlo_0, nlo_l, and_self, or_self, Nat.reduceEqDiff, Nat.reduceLT, Nat.reduceLeDiff, Nat.one_ne_zero, Nat.zero_ne_one, p1, gx, gd, bI_eq, c1, eq_true c2, o5, nI_add, ok, g48]
          rfl
      · rw [if_neg c2]
        exact pt_b hp (by omega) hf hq hqn hk hC (by omega) (.inl (fun hh => hh.elim c1 c2))
/-- the class reads a text -/
theorem c44 (hp : Rd h p) (ht : Nb h tp (tp + 1) 50) (htp : tp + 1 < p) (ht1 : 1 ≤ tp) (ht2 : tp < 1000) (hn : n ≤ 50) (hu : u < 2) (hs : M tp 1 = nI n) (hB : ∀ i, i < n → M (tp + 1) i = nI (B i) ∧ B i < 256) {e : Nat} (he : 60 ≤ e) : ∃ M', j_C e 44 [.ref p, .ref tp, .int (nI u)] (FS h M) = some (some (.int (if (txR B n u).1 = true ∧ (txR B n u).2.1 = n then -1 else nI (txR B n u).2.1)), FS h M') ∧ ((txR B n u).1 = true → Kd M' p (txR B n u).2.2) ∧ ∀ x, x ≠ p → x ≠ p + 1 → x ≠ p + 2 → M' x = M x := by
  obtain ⟨e, rfl⟩ : ∃ d, e = d + 1 := ⟨e - 1, by omega⟩
  have p1 := hp.1
  have p2 := hp.2.1
  have p3 := hp.2.2.1
  have e10 : ¬ nI 1 = nI 0 := by decide +kernel
  have hQ := ch_m (tp := tp) (B := B) (n := n) (u := u) hp (by omega) (pt_gd 5) (pt_k hp 5 (by omega)) 5 (by omega)
  have hf : Fx h (j_up (j_up (j_up (j_up M p 1 (nI tp)) p 2 (nI u)) p 3 (nI 0)) (p + 1) 1 (nI 0)) p tp B n u := by
    refine ⟨ht, htp, ⟨ht1, ht2⟩, hn, hu, ?_, ?_, ?_, ?_⟩
    · rw [up_o _ _ _ _ _ (by omega), up_k _ _ _ _ (by omega), up_k _ _ _ _ (by omega), up_s]
    · rw [up_o _ _ _ _ _ (by omega), up_k _ _ _ _ (by omega), up_s]
    · rw [up_o _ _ _ _ _ (by omega), up_o _ _ _ _ _ (by omega), up_o _ _ _ _ _ (by omega), up_o _ _ _ _ _ (by omega)]; exact hs
    · rw [up_r _ _ _ _ (by omega), up_r _ _ _ _ (by omega), up_r _ _ _ _ (by omega), up_r _ _ _ _ (by omega)]; exact hB
  obtain ⟨M1, a1, a2, a3, a4⟩ := hQ e (by omega) 0 [] _ hf (by rw [up_o _ _ _ _ _ (by omega), up_s]) (by omega) ⟨up_s _ _ _, trivial⟩ (Nat.le_refl _)
  rw [show 5 - 5 = 0 by omega] at a1
  have hf1 := Fx_rf hf a2
  obtain ⟨f1, f2, f3, f4, f5, f6, f7, f8, f9⟩ := hf1
  have ec : (nI tp).toNatClampNeg = tp := nI_clamp (by omega)
  obtain ⟨g1, g2, g3⟩ := ch_gd (B := B) (pt_gd (B := B) (u := u) 5) 5 0 (Nat.zero_le n)
  have s38 := fun M => n38 (d := e - 1) (M := M) p3
  rw [show e - 1 + 1 = e by omega] at s38
  have s32 := n32 (d := e - 1) (M := M1) f1.1
  rw [show e - 1 + 1 = e by omega] at s32
  refine ⟨M1, ?_, fun c => a4 c, fun x b1 b2 b3 => by rw [a2.1 x b1 b2 b3, up_r _ _ _ _ b2, up_r _ _ _ _ b1, up_r _ _ _ _ b1, up_r _ _ _ _ b1]⟩
  unfold txR
  rw [j_C_eq]
  by_cases c : (chR B n (ptR B n u 5) 5 0).1 = true
  · rw [if_pos c] at a1
    by_cases c2 : (chR B n (ptR B n u 5) 5 0).2.1 = n
    · rw [if_pos ⟨c, c2⟩]
      simp (disch := omega) only [st_44_0, st_44_1, st_44_2, st_44_5, st_44_6, st_44_7, st_44_10, st_44_11, st_44_12, st_44_15, st_44_16, st_44_19, st_44_22, st_44_23, st_44_24, st_44_25, st_44_28, st_44_31, st_44_32, st_44_35, st_44_36, st_44_39, st_44_42, st_44_45, st_44_46, st_44_49, st_44_50, st_44_53, ini_44, fs_cl, fs_len, fs_rf, fs_M, fs_put, fs_cpy, ↓reduceIte, rv_ref, true_or, or_true, true_and, and_true, nI_ltI, ix_nI, nI_clamp, ps_i, ps_n, Option.bind_some, sm_0, sm_1, sm_2, sm_3, sm_4, sto_0, sto_1, sto_2, sto_3, sto_4, sto_5, sto_6, sto_7, sto_8, sto_9, sto_10, sto_11, sto_12, sto_13, sto_14, nlo_n, nlo_i, nlo_r, nlo_0, nlo_l, and_self, or_self, Nat.reduceEqDiff, Nat.reduceLT, Nat.reduceLeDiff, Nat.one_ne_zero, Nat.zero_ne_one, p1, p2, p3, s38, a1, e10, a3, f6, ec, f1.1, s32, f8, nI_eq, eq_true c2, show 1 ≤ tp ∧ tp < 1000 from ⟨ht1, ht2⟩]
    · rw [if_neg (fun hh => c2 hh.2)]
      simp (disch := omega) only [st_44_0, st_44_1, st_44_2, st_44_5, st_44_6, st_44_7, st_44_10, st_44_11, st_44_12, st_44_15, st_44_16, st_44_19, st_44_22, st_44_23, st_44_24, st_44_25, st_44_28, st_44_31, st_44_32, st_44_35, st_44_36, st_44_39, st_44_42, st_44_45, st_44_46, st_44_49, st_44_50, st_44_53, ini_44, fs_cl, fs_len, fs_rf, fs_M, fs_put, fs_cpy, ↓reduceIte, rv_ref, true_or, or_true, true_and, and_true, nI_ltI, ix_nI, nI_clamp, ps_i, ps_n, Option.bind_some, sm_0, sm_1, sm_2, sm_3, sm_4, sto_0, sto_1, sto_2, sto_3, sto_4, sto_5, sto_6, sto_7, sto_8, sto_9, sto_10, sto_11, sto_12, sto_13, sto_14, nlo_n, nlo_i, nlo_r, nlo_0, nlo_l, and_self, or_self, Nat.reduceEqDiff, Nat.reduceLT, Nat.reduceLeDiff, Nat.one_ne_zero, Nat.zero_ne_one, p1, p2, p3, s38, a1, e10, a3, f6, ec, f1.1, s32, f8, nI_eq, c2, show 1 ≤ tp ∧ tp < 1000 from ⟨ht1, ht2⟩]
  · rw [if_neg c] at a1
    rw [if_neg (fun hh => c hh.1)]
    simp (disch := omega) only [st_44_0, st_44_1, st_44_2, st_44_5, st_44_6, st_44_7, st_44_10, st_44_11, st_44_12, st_44_15, st_44_16, st_44_19, st_44_22, st_44_23, st_44_24, st_44_25, st_44_28, st_44_31, st_44_32, st_44_35, st_44_36, st_44_39, st_44_42, st_44_45, st_44_46, st_44_49, st_44_50, st_44_53, ini_44, fs_cl, fs_len, fs_rf, fs_M, fs_put, fs_cpy, ↓reduceIte, rv_ref, true_or, or_true, true_and, and_true, nI_ltI, ix_nI, nI_clamp, ps_i, ps_n, Option.bind_some, sm_0, sm_1, sm_2, sm_3, sm_4, sto_0, sto_1, sto_2, sto_3, sto_4, sto_5, sto_6, sto_7, sto_8, sto_9, sto_10, sto_11, sto_12, sto_13, sto_14, nlo_n, nlo_i, nlo_r, nlo_0, nlo_l, and_self, or_self, Nat.reduceEqDiff, Nat.reduceLT, Nat.reduceLeDiff, Nat.one_ne_zero, Nat.zero_ne_one, p1, p2, p3, s38, a1, a3, show 1 ≤ tp ∧ tp < 1000 from ⟨ht1, ht2⟩]
