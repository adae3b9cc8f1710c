/-! Both sides: voices, the reference's; the trace. -/
variable {h : j_Hd} {M M1 M2 M3 : Nat → Nat → Int32} {o b sc sf ar n : Nat} {E E' : Nat → Nat} {z : Int32} {K0 K1 K : List Int32} {T : Nat → Nat} {W : Nat → Int32} {num mk : Int32} {k t : Nat}
theorem r205 (hk : Md h o) (hn : M o 14 = nI n) (hn2 : n < 40) (v : Int32) {e : Nat} (he : 1 ≤ e) : ∃ M1, j_C e 205 [.ref o, .int v] (FS h M) = some (none, FS h M1) ∧ TrG o 14 (o + 7) M n M1 [v] := by
  obtain ⟨e, rfl⟩ := le_ex he
  have m0 := hk.1
  have q7 := hk.2.2.2.2.2.2.2.1.1
  have b1 := hk.2.2.2.2.2.2.2.1.2.1
  have b2 := hk.2.2.2.2.2.2.2.1.2.2.1
  have g14 : j_up M (o + 7) n v o 14 = nI n := by rw [up_o _ _ _ _ _ (by omega)]; exact hn
  refine ⟨j_up (j_up M (o + 7) n v) o 14 (nI (n + 1)), ?_, up_s _ _ _, fun i hi => ?_, ⟨?_, trivial⟩, fun x h1 h2 => ?_, fun j hj => ?_⟩
  · rw [j_C_eq]
    simp (disch := omega) only [st_205_0, st_205_1, st_205_4, st_205_6, st_205_9, st_205_10, st_205_13, st_205_14, st_205_17, st_205_18, st_205_19, st_205_20, st_205_20r, st_205_21, st_205_24, st_205_25, st_205_26, st_205_29, ini_205, fs_cl, fs_len, fs_rf, fs_M, fs_put, fs_cpy, ↓reduceIte, rv_ref, true_or, or_true, true_and, and_true, nI_ltI, ix_nI, nI_clamp, ps_i, ps_n, Option.bind_some, sm_0, sm_1, sm_2, sm_3, sm_4, sto_0, sto_1, sto_2, sto_3, sto_4, sto_5, sto_6, sto_7, sto_8, sto_9, sto_10, sto_11, sto_12, sto_13, sto_14, nlo_n, nlo_i, nlo_r, nlo_0, nlo_l, and_self, or_self, Nat.reduceEqDiff, Nat.reduceLT, Nat.reduceLeDiff, Nat.one_ne_zero, Nat.zero_ne_one, m0, q7, b1, b2, hn, hn2, g14, nI_add]
  · rw [up_o _ _ _ _ _ (by omega), up_k _ _ _ _ (by omega)]
  · rw [up_o _ _ _ _ _ (by omega), up_s]
  · rw [up_r _ _ _ _ h1, up_r _ _ _ _ h2]
  · rw [up_k _ _ _ _ hj, up_o _ _ _ _ _ (by omega)]
/-- a voice's state in the reference -/
def Vr (M : Nat → Nat → Int32) (o t k : Nat) (num mk : Int32) : Prop := M o 15 = num ∧ num = nI t ∧ t < 6 ∧ M (o + 1) (8 + 5 * t) = nI k ∧ M (o + 1) (9 + 5 * t) = mk ∧ k < 7
theorem Vr_Tr {L : List Int32} (ht : TrG o 14 (o + 7) M n M1 L) (hV : Vr M o t k num mk) : Vr M1 o t k num mk := by
  obtain ⟨a, b, c, d, e, f⟩ := hV
  have q := ht.2.2.2.1 (o + 1) (by omega) (by omega)
  exact ⟨by rw [ht.2.2.2.2 15 (by omega)]; exact a, b, c, by rw [q]; exact d, by rw [q]; exact e, f⟩
theorem Vr_k (hk : Md h o) (hV : Vr M o t k num mk) {e : Nat} (he : 1 ≤ e) : j_C e 147 [.ref o, .int num, .int (nI 0)] (FS h M) = some (some (.int (nI k)), FS h M) ∧ j_C e 147 [.ref o, .int num, .int (nI 1)] (FS h M) = some (some (.int mk), FS h M) := by
  obtain ⟨a, b, c, d, e1, f⟩ := hV
  subst b
  have g := r147e (M := M) hk (t := t) (k := 0) (by omega) (e := e) he
  have g2 := r147e (M := M) hk (t := t) (k := 1) (by omega) (e := e) he
  rw [show 8 + 5 * t + 0 = 8 + 5 * t by omega, d] at g
  rw [show 8 + 5 * t + 1 = 9 + 5 * t by omega, e1] at g2
  exact ⟨g, g2⟩
theorem up206 (hk : Md h o) {f g : Nat} (h7 : f < 7) (h0 : ¬ f = 0) (h1 : ¬ f = 1) (hg : (if f < 4 then 0 else f - 3) = g) {x v : Int32} {e : Nat} {σ' : j_St} (hX : j_C (e + 1) 206 [.ref o, .int (nI g), .int x] (FS h M) = some (some (.int v), σ')) : j_C (e + 2) 206 [.ref o, .int (nI f), .int x] (FS h M) = some (some (.int v), σ') := by
  have m0 := hk.1
  have ga := r179 (σ := FS h M) (a := f) h7 (e := e + 1) (by omega)
  rw [hg] at ga
  rw [show e + 2 = (e + 1) + 1 from rfl, j_C_eq]
  simp (disch := omega) only [st_206_0, st_206_1, st_206_28, st_206_29, st_206_31, st_206_34, st_206_35, st_206_36, st_206_39, st_206_40, st_206_41, st_206_42, st_206_44, st_206_47, st_206_48, st_206_49, st_206_52, st_206_53, st_206_56, st_206_57, st_206_58, st_206_59, st_206_60, st_206_61, st_206_64, st_206_65, st_206_68, ini_206, fs_cl, fs_len, fs_rf, fs_M, fs_put, fs_cpy, ↓reduceIte, rv_ref, true_or, or_true, true_and, and_true, nI_ltI, ix_nI, nI_clamp, ps_i, ps_n, Option.bind_some, sm_0, sm_1, sm_2, sm_3, sm_4, sto_0, sto_1, sto_2, sto_3, sto_4, sto_5, sto_6, sto_7, sto_8, sto_9, sto_10, sto_11, sto_12, sto_13, sto_14, nlo_n, nlo_i, nlo_r, nlo_0, nlo_l, and_self, or_self, Nat.reduceEqDiff, Nat.reduceLT, Nat.reduceLeDiff, Nat.one_ne_zero, Nat.zero_ne_one, m0, nI_eq, h0, h1, ga, hX]
theorem up207 (hk : Md h o) {f g : Nat} (h7 : f < 7) (h0 : ¬ f = 0) (h3 : ¬ f = 3) (h6 : ¬ f = 6) (hg : (if f < 4 then 0 else f - 3) = g) {x v : Int32} {e : Nat} {σ' : j_St} (hX : j_C (e + 1) 207 [.ref o, .int (nI g), .int x] (FS h M) = some (some (.int v), σ')) : j_C (e + 2) 207 [.ref o, .int (nI f), .int x] (FS h M) = some (some (.int v), σ') := by
  have m0 := hk.1
  have ga := r179 (σ := FS h M) (a := f) h7 (e := e + 1) (by omega)
  rw [hg] at ga
  rw [show e + 2 = (e + 1) + 1 from rfl, j_C_eq]
  simp (disch := omega) only [st_207_0, st_207_1, st_207_36, st_207_37, st_207_39, st_207_42, st_207_43, st_207_44, st_207_45, st_207_48, st_207_49, st_207_52, st_207_53, st_207_56, st_207_57, st_207_58, st_207_59, st_207_60, st_207_62, st_207_65, st_207_66, st_207_67, st_207_70, st_207_71, st_207_74, st_207_75, st_207_76, st_207_77, st_207_78, st_207_79, st_207_82, st_207_83, st_207_86, st_207_87, st_207_90, st_207_91, st_207_92, st_207_93, st_207_95, st_207_98, st_207_99, st_207_101, st_207_104, st_207_105, st_207_106, st_207_107, st_207_110, st_207_111, st_207_112, st_207_113, st_207_116, st_207_117, st_207_120, ini_207, fs_cl, fs_len, fs_rf, fs_M, fs_put, fs_cpy, ↓reduceIte, rv_ref, true_or, or_true, true_and, and_true, nI_ltI, ix_nI, nI_clamp, ps_i, ps_n, Option.bind_some, sm_0, sm_1, sm_2, sm_3, sm_4, sto_0, sto_1, sto_2, sto_3, sto_4, sto_5, sto_6, sto_7, sto_8, sto_9, sto_10, sto_11, sto_12, sto_13, sto_14, nlo_n, nlo_i, nlo_r, nlo_0, nlo_l, and_self, or_self, Nat.reduceEqDiff, Nat.reduceLT, Nat.reduceLeDiff, Nat.one_ne_zero, Nat.zero_ne_one, m0, nI_eq, h0, h3, h6, ga, hX]
theorem up208 (hk : Md h o) {f g : Nat} (h7 : f < 7) (h0 : ¬ f = 0) (h2 : ¬ f = 2) (h5 : ¬ f = 5) (hg : (if f < 4 then 0 else f - 3) = g) {x v : Int32} {e : Nat} {σ' : j_St} (hX : j_C (e + 1) 208 [.ref o, .int (nI g), .int x] (FS h M) = some (some (.int v), σ')) : j_C (e + 2) 208 [.ref o, .int (nI f), .int x] (FS h M) = some (some (.int v), σ') := by
  have m0 := hk.1
  have ga := r179 (σ := FS h M) (a := f) h7 (e := e + 1) (by omega)
  rw [hg] at ga
  rw [show e + 2 = (e + 1) + 1 from rfl, j_C_eq]
  simp (disch := omega) only [st_208_0, st_208_1, st_208_36, st_208_37, st_208_39, st_208_42, st_208_43, st_208_44, st_208_45, st_208_48, st_208_49, st_208_52, st_208_53, st_208_54, st_208_55, st_208_57, st_208_60, st_208_61, st_208_62, st_208_65, st_208_66, st_208_69, st_208_70, st_208_71, st_208_72, st_208_74, st_208_77, st_208_78, st_208_79, st_208_82, st_208_83, st_208_86, st_208_87, st_208_90, st_208_91, st_208_92, st_208_93, st_208_94, st_208_97, st_208_98, st_208_101, ini_208, fs_cl, fs_len, fs_rf, fs_M, fs_put, fs_cpy, ↓reduceIte, rv_ref, true_or, or_true, true_and, and_true, nI_ltI, ix_nI, nI_clamp, ps_i, ps_n, Option.bind_some, sm_0, sm_1, sm_2, sm_3, sm_4, sto_0, sto_1, sto_2, sto_3, sto_4, sto_5, sto_6, sto_7, sto_8, sto_9, sto_10, sto_11, sto_12, sto_13, sto_14, nlo_n, nlo_i, nlo_r, nlo_0, nlo_l, and_self, or_self, Nat.reduceEqDiff, Nat.reduceLT, Nat.reduceLeDiff, Nat.one_ne_zero, Nat.zero_ne_one, m0, nI_eq, h0, h2, h5, ga, hX]
theorem up209 (hk : Md h o) {f g : Nat} (h7 : f < 7) (h0 : ¬ f = 0) (h4 : ¬ f = 4) (h5 : ¬ f = 5) (hg : (if f < 4 then 0 else f - 3) = g) {x v : Int32} {e : Nat} {σ' : j_St} (hX : j_C (e + 1) 209 [.ref o, .int (nI g), .int x] (FS h M) = some (some (.int v), σ')) : j_C (e + 2) 209 [.ref o, .int (nI f), .int x] (FS h M) = some (some (.int v), σ') := by
  have m0 := hk.1
  have ga := r179 (σ := FS h M) (a := f) h7 (e := e + 1) (by omega)
  rw [hg] at ga
  rw [show e + 2 = (e + 1) + 1 from rfl, j_C_eq]
  simp (disch := omega) only [st_209_0, st_209_1, st_209_2, st_209_3, st_209_36, st_209_37, st_209_39, st_209_42, st_209_43, st_209_44, st_209_45, st_209_48, st_209_49, st_209_52, st_209_53, st_209_56, st_209_57, st_209_58, st_209_59, st_209_60, st_209_61, st_209_64, st_209_65, st_209_68, st_209_69, st_209_72, st_209_73, st_209_74, st_209_75, st_209_77, st_209_80, st_209_81, st_209_82, st_209_85, st_209_86, st_209_89, st_209_90, st_209_91, st_209_92, st_209_93, st_209_94, st_209_97, st_209_98, st_209_101, st_209_102, st_209_105, st_209_106, st_209_107, st_209_108, st_209_110, st_209_113, st_209_114, st_209_115, st_209_116, st_209_119, st_209_120, st_209_123, st_209_124, st_209_127, st_209_128, st_209_129, st_209_130, st_209_131, st_209_134, st_209_135, st_209_138, st_209_139, st_209_140, st_209_141, st_209_142, st_209_145, st_209_146, st_209_149, ini_209, fs_cl, fs_len, fs_rf, fs_M, fs_put, fs_cpy, ↓reduceIte, rv_ref, true_or, or_true, true_and, and_true, nI_ltI, ix_nI, nI_clamp, ps_i, ps_n, Option.bind_some, sm_0, sm_1, sm_2, sm_3, sm_4, sto_0, sto_1, sto_2, sto_3, sto_4, sto_5, sto_6, sto_7, sto_8, sto_9, sto_10, sto_11, sto_12, sto_13, sto_14, nlo_n, nlo_i, nlo_r, nlo_0, nlo_l, and_self, or_self, Nat.reduceEqDiff, Nat.reduceLT, Nat.reduceLeDiff, Nat.one_ne_zero, Nat.zero_ne_one, m0, nI_eq, h0, h4, h5, ga, hX]
theorem y_sn (hk : Md h o) (hV : Vr M o t k num mk) {f : Nat} (hf : f < 7) (x : Int32) (hn : M o 14 = nI n) (hn2 : n + 2 ≤ 40) {e : Nat} (he : 6 ≤ e) : ∃ M1, j_C e 206 [.ref o, .int (nI f), .int x] (FS h M) = some (some (.int (snV num f x).1), FS h M1) ∧ TrG o 14 (o + 7) M n M1 (snV num f x).2 := by
  have m0 := hk.1
  have B0 : ∀ (M : Nat → Nat → Int32) (n : Nat), Vr M o t k num mk → M o 14 = nI n → n + 1 ≤ 40 → ∀ e, 2 ≤ e → ∃ M1, j_C e 206 [.ref o, .int (nI 0), .int x] (FS h M) = some (some (.int (x + num)), FS h M1) ∧ TrG o 14 (o + 7) M n M1 [nI 10] := by
    intro M n hV hn hn2 e he
    obtain ⟨e, rfl⟩ : ∃ d, e = d + 1 := ⟨e - 1, by omega⟩
    obtain ⟨M1, p1, p2⟩ := r205 hk hn (by omega) (nI 10) (e := e) (by omega)
    have hV1 := Vr_Tr p2 hV
    refine ⟨M1, ?_, p2⟩
    rw [j_C_eq]
    simp (disch := omega) only [st_206_0, st_206_1, st_206_28, st_206_29, st_206_31, st_206_34, st_206_35, st_206_36, st_206_39, st_206_40, st_206_41, st_206_42, st_206_44, st_206_47, st_206_48, st_206_49, st_206_52, st_206_53, st_206_56, st_206_57, st_206_58, st_206_59, st_206_60, st_206_61, st_206_64, st_206_65, st_206_68, ini_206, fs_cl, fs_len, fs_rf, fs_M, fs_put, fs_cpy, ↓reduceIte, rv_ref, true_or, or_true, true_and, and_true, nI_ltI, ix_nI, nI_clamp, ps_i, ps_n, Option.bind_some, sm_0, sm_1, sm_2, sm_3, sm_4, sto_0, sto_1, sto_2, sto_3, sto_4, sto_5, sto_6, sto_7, sto_8, sto_9, sto_10, sto_11, sto_12, sto_13, sto_14, nlo_n, nlo_i, nlo_r, nlo_0, nlo_l, and_self, or_self, Nat.reduceEqDiff, Nat.reduceLT, Nat.reduceLeDiff, Nat.one_ne_zero, Nat.zero_ne_one, m0, nI_eq, p1, hV1.1]
  have B1 : ∀ (M : Nat → Nat → Int32) (n : Nat), Vr M o t k num mk → M o 14 = nI n → n + 2 ≤ 40 → ∀ e, 3 ≤ e → ∃ M1, j_C e 206 [.ref o, .int (nI 1), .int x] (FS h M) = some (some (.int ((x + num) * nI 3)), FS h M1) ∧ TrG o 14 (o + 7) M n M1 [nI 20, nI 10] := by
    intro M n hV hn hn2 e he
    obtain ⟨e, rfl⟩ : ∃ d, e = d + 1 := ⟨e - 1, by omega⟩
    obtain ⟨M1, p1, p2⟩ := r205 hk hn (by omega) (nI 20) (e := e) (by omega)
    have hV1 := Vr_Tr p2 hV
    have ga := r179 (σ := FS h M1) (a := 1) (by omega) (e := e) (by omega)
    obtain ⟨M2, q1, q2⟩ := B0 M1 (n + 1) hV1 p2.1 (by omega) e (by omega)
    have ga' : j_C e 179 [.int (nI 1)] (FS h M1) = some (some (.int (nI 0)), FS h M1) := ga
    refine ⟨M2, ?_, Tr_c p2 q2⟩
    rw [j_C_eq]
    simp (disch := omega) only [st_206_0, st_206_1, st_206_28, st_206_29, st_206_31, st_206_34, st_206_35, st_206_36, st_206_39, st_206_40, st_206_41, st_206_42, st_206_44, st_206_47, st_206_48, st_206_49, st_206_52, st_206_53, st_206_56, st_206_57, st_206_58, st_206_59, st_206_60, st_206_61, st_206_64, st_206_65, st_206_68, ini_206, fs_cl, fs_len, fs_rf, fs_M, fs_put, fs_cpy, ↓reduceIte, rv_ref, true_or, or_true, true_and, and_true, nI_ltI, ix_nI, nI_clamp, ps_i, ps_n, Option.bind_some, sm_0, sm_1, sm_2, sm_3, sm_4, sto_0, sto_1, sto_2, sto_3, sto_4, sto_5, sto_6, sto_7, sto_8, sto_9, sto_10, sto_11, sto_12, sto_13, sto_14, nlo_n, nlo_i, nlo_r, nlo_0, nlo_l, and_self, or_self, Nat.reduceEqDiff, Nat.reduceLT, Nat.reduceLeDiff, Nat.one_ne_zero, Nat.zero_ne_one, m0, nI_eq, p1, ga', q1]
  have hc : f = 0 ∨ f = 1 ∨ f = 2 ∨ f = 3 ∨ f = 4 ∨ f = 5 ∨ f = 6 := by omega
  obtain ⟨e, rfl⟩ : ∃ d, e = d + 4 := ⟨e - 4, by omega⟩
  unfold snV
  rcases hc with c | c | c | c | c | c | c <;> subst c
  · rw [if_neg (by omega)]
    exact B0 M n hV hn (by omega) _ (by omega)
  · rw [if_pos (by omega)]
    exact B1 M n hV hn (by omega) _ (by omega)
  · rw [if_neg (by omega)]
    obtain ⟨M1, p1, p2⟩ := B0 M n hV hn (by omega) (e + 3) (by omega)
    exact ⟨M1, up206 hk (by omega) (by omega) (by omega) rfl p1, p2⟩
  · rw [if_neg (by omega)]
    obtain ⟨M1, p1, p2⟩ := B0 M n hV hn (by omega) (e + 3) (by omega)
    exact ⟨M1, up206 hk (by omega) (by omega) (by omega) rfl p1, p2⟩
  · rw [if_pos (by omega)]
    obtain ⟨M1, p1, p2⟩ := B1 M n hV hn (by omega) (e + 3) (by omega)
    exact ⟨M1, up206 hk (by omega) (by omega) (by omega) rfl p1, p2⟩
  · rw [if_neg (by omega)]
    obtain ⟨M1, p1, p2⟩ := B0 M n hV hn (by omega) (e + 2) (by omega)
    exact ⟨M1, up206 hk (by omega) (by omega) (by omega) rfl (up206 hk (f := 2) (by omega) (by omega) (by omega) rfl p1), p2⟩
  · rw [if_neg (by omega)]
    obtain ⟨M1, p1, p2⟩ := B0 M n hV hn (by omega) (e + 2) (by omega)
    exact ⟨M1, up206 hk (by omega) (by omega) (by omega) rfl (up206 hk (f := 3) (by omega) (by omega) (by omega) rfl p1), p2⟩
theorem y_tk (hk : Md h o) (hV : Vr M o t k num mk) {f : Nat} (hf : f < 7) (x : Int32) (hn : M o 14 = nI n) (hn2 : n + 3 ≤ 40) {e : Nat} (he : 8 ≤ e) : ∃ M1, j_C e 208 [.ref o, .int (nI f), .int x] (FS h M) = some (some (.int (tkV num mk f x).1), FS h M1) ∧ TrG o 14 (o + 7) M n M1 (tkV num mk f x).2 := by
  have m0 := hk.1
  have B0 : ∀ (M : Nat → Nat → Int32) (n : Nat), Vr M o t k num mk → M o 14 = nI n → n + 1 ≤ 40 → ∀ e, 3 ≤ e → ∃ M1, j_C e 208 [.ref o, .int (nI 0), .int x] (FS h M) = some (some (.int (x - mk)), FS h M1) ∧ TrG o 14 (o + 7) M n M1 [nI 12] := by
    intro M n hV hn hn2 e he
    obtain ⟨e, rfl⟩ : ∃ d, e = d + 1 := ⟨e - 1, by omega⟩
    obtain ⟨M1, p1, p2⟩ := r205 hk hn (by omega) (nI 12) (e := e) (by omega)
    have hV1 := Vr_Tr p2 hV
    have gk := (Vr_k hk hV1 (e := e) (by omega)).2
    refine ⟨M1, ?_, p2⟩
    rw [j_C_eq]
    simp (disch := omega) only [st_208_0, st_208_1, st_208_36, st_208_37, st_208_39, st_208_42, st_208_43, st_208_44, st_208_45, st_208_48, st_208_49, st_208_52, st_208_53, st_208_54, st_208_55, st_208_57, st_208_60, st_208_61, st_208_62, st_208_65, st_208_66, st_208_69, st_208_70, st_208_71, st_208_72, st_208_74, st_208_77, st_208_78, st_208_79, st_208_82, st_208_83, st_208_86, st_208_87, st_208_90, st_208_91, st_208_92, st_208_93, st_208_94, st_208_97, st_208_98, st_208_101, ini_208, fs_cl, fs_len, fs_rf, fs_M, fs_put, fs_cpy, ↓reduceIte, rv_ref, true_or, or_true, true_and, and_true, nI_ltI, ix_nI, nI_clamp, ps_i, ps_n, Option.bind_some, sm_0, sm_1, sm_2, sm_3, sm_4, sto_0, sto_1, sto_2, sto_3, sto_4, sto_5, sto_6, sto_7, sto_8, sto_9, sto_10, sto_11, sto_12, sto_13, sto_14, nlo_n, nlo_i, nlo_r, nlo_0, nlo_l, and_self, or_self, Nat.reduceEqDiff, Nat.reduceLT, Nat.reduceLeDiff, Nat.one_ne_zero, Nat.zero_ne_one, m0, nI_eq, p1, hV1.1, gk]
  have B2 : ∀ (M : Nat → Nat → Int32) (n : Nat), Vr M o t k num mk → M o 14 = nI n → n + 2 ≤ 40 → ∀ e, 4 ≤ e → ∃ M1, j_C e 208 [.ref o, .int (nI 2), .int x] (FS h M) = some (some (.int (-(x - mk))), FS h M1) ∧ TrG o 14 (o + 7) M n M1 [nI 30, nI 12] := by
    intro M n hV hn hn2 e he
    obtain ⟨e, rfl⟩ : ∃ d, e = d + 1 := ⟨e - 1, by omega⟩
    obtain ⟨M1, p1, p2⟩ := r205 hk hn (by omega) (nI 30) (e := e) (by omega)
    have hV1 := Vr_Tr p2 hV
    have ga : j_C e 179 [.int (nI 2)] (FS h M1) = some (some (.int (nI 0)), FS h M1) := r179 (σ := FS h M1) (a := 2) (by omega) (e := e) (by omega)
    obtain ⟨M2, q1, q2⟩ := B0 M1 (n + 1) hV1 p2.1 (by omega) e (by omega)
    refine ⟨M2, ?_, Tr_c p2 q2⟩
    rw [j_C_eq]
    simp (disch := omega) only [st_208_0, st_208_1, st_208_36, st_208_37, st_208_39, st_208_42, st_208_43, st_208_44, st_208_45, st_208_48, st_208_49, st_208_52, st_208_53, st_208_54, st_208_55, st_208_57, st_208_60, st_208_61, st_208_62, st_208_65, st_208_66, st_208_69, st_208_70, st_208_71, st_208_72, st_208_74, st_208_77, st_208_78, st_208_79, st_208_82, st_208_83, st_208_86, st_208_87, st_208_90, st_208_91, st_208_92, st_208_93, st_208_94, st_208_97, st_208_98, st_208_101, ini_208, fs_cl, fs_len, fs_rf, fs_M, fs_put, fs_cpy, ↓reduceIte, rv_ref, true_or, or_true, true_and, and_true, nI_ltI, ix_nI, nI_clamp, ps_i, ps_n, Option.bind_some, sm_0, sm_1, sm_2, sm_3, sm_4, sto_0, sto_1, sto_2, sto_3, sto_4, sto_5, sto_6, sto_7, sto_8, sto_9, sto_10, sto_11, sto_12, sto_13, sto_14, nlo_n, nlo_i, nlo_r, nlo_0, nlo_l, and_self, or_self, Nat.reduceEqDiff, Nat.reduceLT, Nat.reduceLeDiff, Nat.one_ne_zero, Nat.zero_ne_one, m0, nI_eq, p1, ga, q1]
  have B5 : ∀ (M : Nat → Nat → Int32) (n : Nat), Vr M o t k num mk → M o 14 = nI n → n + 3 ≤ 40 → ∀ e, 5 ≤ e → ∃ M1, j_C e 208 [.ref o, .int (nI 5), .int x] (FS h M) = some (some (.int (-(x - mk) ^^^ num)), FS h M1) ∧ TrG o 14 (o + 7) M n M1 [nI 60, nI 30, nI 12] := by
    intro M n hV hn hn2 e he
    obtain ⟨e, rfl⟩ : ∃ d, e = d + 1 := ⟨e - 1, by omega⟩
    obtain ⟨M1, p1, p2⟩ := r205 hk hn (by omega) (nI 60) (e := e) (by omega)
    have hV1 := Vr_Tr p2 hV
    have ga : j_C e 179 [.int (nI 5)] (FS h M1) = some (some (.int (nI 2)), FS h M1) := r179 (σ := FS h M1) (a := 5) (by omega) (e := e) (by omega)
    obtain ⟨M2, q1, q2⟩ := B2 M1 (n + 1) hV1 p2.1 (by omega) e (by omega)
    have hV2 := Vr_Tr q2 hV1
    refine ⟨M2, ?_, Tr_c p2 q2⟩
    rw [j_C_eq]
    simp (disch := omega) only [st_208_0, st_208_1, st_208_36, st_208_37, st_208_39, st_208_42, st_208_43, st_208_44, st_208_45, st_208_48, st_208_49, st_208_52, st_208_53, st_208_54, st_208_55, st_208_57, st_208_60, st_208_61, st_208_62, st_208_65, st_208_66, st_208_69, st_208_70, st_208_71, st_208_72, st_208_74, st_208_77, st_208_78, st_208_79, st_208_82, st_208_83, st_208_86, st_208_87, st_208_90, st_208_91, st_208_92, st_208_93, st_208_94, st_208_97, st_208_98, st_208_101, ini_208, fs_cl, fs_len, fs_rf, fs_M, fs_put, fs_cpy, ↓reduceIte, rv_ref, true_or, or_true, true_and, and_true, nI_ltI, ix_nI, nI_clamp, ps_i, ps_n, Option.bind_some, sm_0, sm_1, sm_2, sm_3, sm_4, sto_0, sto_1, sto_2, sto_3, sto_4, sto_5, sto_6, sto_7, sto_8, sto_9, sto_10, sto_11, sto_12, sto_13, sto_14, nlo_n, nlo_i, nlo_r, nlo_0, nlo_l, and_self, or_self, Nat.reduceEqDiff, Nat.reduceLT, Nat.reduceLeDiff, Nat.one_ne_zero, Nat.zero_ne_one, m0, nI_eq, p1, ga, q1, hV2.1]
  have hc : f = 0 ∨ f = 1 ∨ f = 2 ∨ f = 3 ∨ f = 4 ∨ f = 5 ∨ f = 6 := by omega
  obtain ⟨e, rfl⟩ : ∃ d, e = d + 4 := ⟨e - 4, by omega⟩
  unfold tkV
  rcases hc with c | c | c | c | c | c | c <;> subst c
  · rw [if_neg (by omega), if_neg (by omega)]
    exact B0 M n hV hn (by omega) _ (by omega)
  · rw [if_neg (by omega), if_neg (by omega)]
    obtain ⟨M1, p1, p2⟩ := B0 M n hV hn (by omega) (e + 3) (by omega)
    exact ⟨M1, up208 hk (by omega) (by omega) (by omega) (by omega) rfl p1, p2⟩
  · rw [if_pos (by omega)]
    exact B2 M n hV hn (by omega) _ (by omega)
  · rw [if_neg (by omega), if_neg (by omega)]
    obtain ⟨M1, p1, p2⟩ := B0 M n hV hn (by omega) (e + 3) (by omega)
    exact ⟨M1, up208 hk (by omega) (by omega) (by omega) (by omega) rfl p1, p2⟩
  · rw [if_neg (by omega), if_neg (by omega)]
    obtain ⟨M1, p1, p2⟩ := B0 M n hV hn (by omega) (e + 2) (by omega)
    exact ⟨M1, up208 hk (by omega) (by omega) (by omega) (by omega) rfl (up208 hk (f := 1) (by omega) (by omega) (by omega) (by omega) rfl p1), p2⟩
  · rw [if_neg (by omega), if_pos (by omega)]
    exact B5 M n hV hn (by omega) _ (by omega)
  · rw [if_neg (by omega), if_neg (by omega)]
    obtain ⟨M1, p1, p2⟩ := B0 M n hV hn (by omega) (e + 2) (by omega)
    exact ⟨M1, up208 hk (by omega) (by omega) (by omega) (by omega) rfl (up208 hk (f := 3) (by omega) (by omega) (by omega) (by omega) rfl p1), p2⟩
theorem y_sl0 (hk : Md h o) (hV : Vr M o t k num mk) (x : Int32) (hn : M o 14 = nI n) (hn2 : n + 3 ≤ 40) {e : Nat} (he : 8 ≤ e) : ∃ M1, j_C e 207 [.ref o, .int (nI 0), .int x] (FS h M) = some (some (.int (sl0 num k x).1), FS h M1) ∧ TrG o 14 (o + 7) M n M1 (sl0 num k x).2 := by
  have m0 := hk.1
  obtain ⟨e, rfl⟩ : ∃ d, e = d + 1 := ⟨e - 1, by omega⟩
  obtain ⟨M1, p1, p2⟩ := r205 hk hn (by omega) (nI 11) (e := e) (by omega)
  have hV1 := Vr_Tr p2 hV
  have gk := (Vr_k hk hV1 (e := e) (by omega)).1
  obtain ⟨M2, q1, q2⟩ := y_sn hk hV1 hV1.2.2.2.2.2 x p2.1 (by show n + 1 + 2 ≤ 40; omega) (e := e) (by omega)
  refine ⟨M2, ?_, Tr_c p2 q2⟩
  rw [j_C_eq]
  simp (disch := omega) only [st_207_0, st_207_1, st_207_36, st_207_37, st_207_39, st_207_42, st_207_43, st_207_44, st_207_45, st_207_48, st_207_49, st_207_52, st_207_53, st_207_56, st_207_57, st_207_58, st_207_59, st_207_60, st_207_62, st_207_65, st_207_66, st_207_67, st_207_70, st_207_71, st_207_74, st_207_75, st_207_76, st_207_77, st_207_78, st_207_79, st_207_82, st_207_83, st_207_86, st_207_87, st_207_90, st_207_91, st_207_92, st_207_93, st_207_95, st_207_98, st_207_99, st_207_101, st_207_104, st_207_105, st_207_106, st_207_107, st_207_110, st_207_111, st_207_112, st_207_113, st_207_116, st_207_117, st_207_120, ini_207, fs_cl, fs_len, fs_rf, fs_M, fs_put, fs_cpy, ↓reduceIte, rv_ref, true_or, or_true, true_and, and_true, nI_ltI, ix_nI, nI_clamp, ps_i, ps_n, Option.bind_some, sm_0, sm_1, sm_2, sm_3, sm_4, sto_0, sto_1, sto_2, sto_3, sto_4, sto_5, sto_6, sto_7, sto_8, sto_9, sto_10, sto_11, sto_12, sto_13, sto_14, nlo_n, nlo_i, nlo_r, nlo_0, nlo_l, and_self, or_self, Nat.reduceEqDiff, Nat.reduceLT, Nat.reduceLeDiff, Nat.one_ne_zero, Nat.zero_ne_one, m0, nI_eq, p1, hV1.1, gk, q1]
  rfl
theorem y_sl3 (hk : Md h o) (hV : Vr M o t k num mk) (x : Int32) (hn : M o 14 = nI n) (hn2 : n + 7 ≤ 40) {e : Nat} (he : 10 ≤ e) : ∃ M1, j_C e 207 [.ref o, .int (nI 3), .int x] (FS h M) = some (some (.int (sl3 num mk k x).1), FS h M1) ∧ TrG o 14 (o + 7) M n M1 (sl3 num mk k x).2 := by
  have m0 := hk.1
  obtain ⟨e, rfl⟩ : ∃ d, e = d + 1 := ⟨e - 1, by omega⟩
  obtain ⟨M1, p1, p2⟩ := r205 hk hn (by omega) (nI 40) (e := e) (by omega)
  have hV1 := Vr_Tr p2 hV
  have ga : j_C e 179 [.int (nI 3)] (FS h M1) = some (some (.int (nI 0)), FS h M1) := r179 (σ := FS h M1) (a := 3) (by omega) (e := e) (by omega)
  have l0 := sl0_len (num := num) (k := k) x
  obtain ⟨M2, q1, q2⟩ := y_sl0 hk hV1 x p2.1 (by show n + 1 + 3 ≤ 40; omega) (e := e) (by omega)
  have hV2 := Vr_Tr q2 hV1
  have gk := (Vr_k hk hV2 (e := e) (by omega)).1
  obtain ⟨M3, s1, s2⟩ := y_tk hk hV2 hV2.2.2.2.2.2 (nI 1) q2.1 (by show n + 1 + (sl0 num k x).2.length + 3 ≤ 40; omega) (e := e) (by omega)
  refine ⟨M3, ?_, Tr_c p2 (Tr_t q2 s2)⟩
  rw [j_C_eq]
  simp (disch := omega) only [st_207_0, st_207_1, st_207_36, st_207_37, st_207_39, st_207_42, st_207_43, st_207_44, st_207_45, st_207_48, st_207_49, st_207_52, st_207_53, st_207_56, st_207_57, st_207_58, st_207_59, st_207_60, st_207_62, st_207_65, st_207_66, st_207_67, st_207_70, st_207_71, st_207_74, st_207_75, st_207_76, st_207_77, st_207_78, st_207_79, st_207_82, st_207_83, st_207_86, st_207_87, st_207_90, st_207_91, st_207_92, st_207_93, st_207_95, st_207_98, st_207_99, st_207_101, st_207_104, st_207_105, st_207_106, st_207_107, st_207_110, st_207_111, st_207_112, st_207_113, st_207_116, st_207_117, st_207_120, ini_207, fs_cl, fs_len, fs_rf, fs_M, fs_put, fs_cpy, ↓reduceIte, rv_ref, true_or, or_true, true_and, and_true, nI_ltI, ix_nI, nI_clamp, ps_i, ps_n, Option.bind_some, sm_0, sm_1, sm_2, sm_3, sm_4, sto_0, sto_1, sto_2, sto_3, sto_4, sto_5, sto_6, sto_7, sto_8, sto_9, sto_10, sto_11, sto_12, sto_13, sto_14, nlo_n, nlo_i, nlo_r, nlo_0, nlo_l, and_self, or_self, Nat.reduceEqDiff, Nat.reduceLT, Nat.reduceLeDiff, Nat.one_ne_zero, Nat.zero_ne_one, m0, nI_eq, p1, ga, q1, hV2.1, gk, s1]
  rfl
theorem y_sl (hk : Md h o) (hV : Vr M o t k num mk) {f : Nat} (hf : f < 7) (x : Int32) (hn : M o 14 = nI n) (hn2 : n + 8 ≤ 40) {e : Nat} (he : 14 ≤ e) : ∃ M1, j_C e 207 [.ref o, .int (nI f), .int x] (FS h M) = some (some (.int (slV num mk k f x).1), FS h M1) ∧ TrG o 14 (o + 7) M n M1 (slV num mk k f x).2 := by
  have m0 := hk.1
  obtain ⟨e, rfl⟩ : ∃ d, e = d + 4 := ⟨e - 4, by omega⟩
  have hc : f = 0 ∨ f = 1 ∨ f = 2 ∨ f = 3 ∨ f = 4 ∨ f = 5 ∨ f = 6 := by omega
  unfold slV
  rcases hc with c | c | c | c | c | c | c <;> subst c
  · rw [if_neg (by omega), if_neg (by omega)]
    exact y_sl0 hk hV x hn (by omega) (by omega)
  · rw [if_neg (by omega), if_neg (by omega)]
    obtain ⟨M1, p1, p2⟩ := y_sl0 hk hV x hn (by omega) (e := e + 3) (by omega)
    exact ⟨M1, up207 hk (by omega) (by omega) (by omega) (by omega) rfl p1, p2⟩
  · rw [if_neg (by omega), if_neg (by omega)]
    obtain ⟨M1, p1, p2⟩ := y_sl0 hk hV x hn (by omega) (e := e + 3) (by omega)
    exact ⟨M1, up207 hk (by omega) (by omega) (by omega) (by omega) rfl p1, p2⟩
  · rw [if_pos (by omega)]
    exact y_sl3 hk hV x hn (by omega) (by omega)
  · rw [if_neg (by omega), if_neg (by omega)]
    obtain ⟨M1, p1, p2⟩ := y_sl0 hk hV x hn (by omega) (e := e + 2) (by omega)
    exact ⟨M1, up207 hk (by omega) (by omega) (by omega) (by omega) rfl (up207 hk (f := 1) (by omega) (by omega) (by omega) (by omega) rfl p1), p2⟩
  · rw [if_neg (by omega), if_neg (by omega)]
    obtain ⟨M1, p1, p2⟩ := y_sl0 hk hV x hn (by omega) (e := e + 2) (by omega)
    exact ⟨M1, up207 hk (by omega) (by omega) (by omega) (by omega) rfl (up207 hk (f := 2) (by omega) (by omega) (by omega) (by omega) rfl p1), p2⟩
  · rw [if_neg (by omega), if_pos (by omega)]
    obtain ⟨M1, p1, p2⟩ := r205 hk hn (by omega) (nI 70) (e := e + 3) (by omega)
    have hV1 := Vr_Tr p2 hV
    have ga : j_C (e + 3) 179 [.int (nI 6)] (FS h M1) = some (some (.int (nI 3)), FS h M1) := r179 (σ := FS h M1) (a := 6) (by omega) (e := e + 3) (by omega)
    obtain ⟨M2, q1, q2⟩ := y_sl3 hk hV1 (x + nI 1) p2.1 (by show n + 1 + 7 ≤ 40; omega) (e := e + 3) (by omega)
    refine ⟨M2, ?_, Tr_c p2 q2⟩
    rw [show e + 4 = (e + 3) + 1 from rfl, j_C_eq]
    simp (disch := omega) only [st_207_0, st_207_1, st_207_36, st_207_37, st_207_39, st_207_42, st_207_43, st_207_44, st_207_45, st_207_48, st_207_49, st_207_52, st_207_53, st_207_56, st_207_57, st_207_58, st_207_59, st_207_60, st_207_62, st_207_65, st_207_66, st_207_67, st_207_70, st_207_71, st_207_74, st_207_75, st_207_76, st_207_77, st_207_78, st_207_79, st_207_82, st_207_83, st_207_86, st_207_87, st_207_90, st_207_91, st_207_92, st_207_93, st_207_95, st_207_98, st_207_99, st_207_101, st_207_104, st_207_105, st_207_106, st_207_107, st_207_110, st_207_111, st_207_112, st_207_113, st_207_116, st_207_117, st_207_120, ini_207, fs_cl, fs_len, fs_rf, fs_M, fs_put, fs_cpy, ↓reduceIte, rv_ref, true_or, or_true, true_and, and_true, nI_ltI, ix_nI, nI_clamp, ps_i, ps_n, Option.bind_some, sm_0, sm_1, sm_2, sm_3, sm_4, sto_0, sto_1, sto_2, sto_3, sto_4, sto_5, sto_6, sto_7, sto_8, sto_9, sto_10, sto_11, sto_12, sto_13, sto_14, nlo_n, nlo_i, nlo_r, nlo_0, nlo_l, and_self, or_self, Nat.reduceEqDiff, Nat.reduceLT, Nat.reduceLeDiff, Nat.one_ne_zero, Nat.zero_ne_one, m0, nI_eq, p1, ga, q1]
theorem y_tl0 (hk : Md h o) (hV : Vr M o t k num mk) (x : Int32) (hn : M o 14 = nI n) (hn2 : n + 12 ≤ 40) {e : Nat} (he : 16 ≤ e) : ∃ M1, j_C e 209 [.ref o, .int (nI 0), .int x] (FS h M) = some (some (.int (tl0 num mk k x).1), FS h M1) ∧ TrG o 14 (o + 7) M n M1 (tl0 num mk k x).2 := by
  have m0 := hk.1
  obtain ⟨e, rfl⟩ : ∃ d, e = d + 1 := ⟨e - 1, by omega⟩
  obtain ⟨M1, p1, p2⟩ := r205 hk hn (by omega) (nI 13) (e := e) (by omega)
  have hV1 := Vr_Tr p2 hV
  have gk := (Vr_k hk hV1 (e := e) (by omega)).1
  have l0 := sl_len (num := num) (mk := mk) (k := k) k x
  obtain ⟨M2, q1, q2⟩ := y_sl hk hV1 hV1.2.2.2.2.2 x p2.1 (by show n + 1 + 8 ≤ 40; omega) (e := e) (by omega)
  have hV2 := Vr_Tr q2 hV1
  have gk2 := (Vr_k hk hV2 (e := e) (by omega)).1
  obtain ⟨M3, s1, s2⟩ := y_tk hk hV2 hV2.2.2.2.2.2 x q2.1 (by show n + 1 + (slV num mk k k x).2.length + 3 ≤ 40; omega) (e := e) (by omega)
  refine ⟨M3, ?_, Tr_c p2 (Tr_t q2 s2)⟩
  rw [j_C_eq]
  simp (disch := omega) only [st_209_0, st_209_1, st_209_2, st_209_3, st_209_36, st_209_37, st_209_39, st_209_42, st_209_43, st_209_44, st_209_45, st_209_48, st_209_49, st_209_52, st_209_53, st_209_56, st_209_57, st_209_58, st_209_59, st_209_60, st_209_61, st_209_64, st_209_65, st_209_68, st_209_69, st_209_72, st_209_73, st_209_74, st_209_75, st_209_77, st_209_80, st_209_81, st_209_82, st_209_85, st_209_86, st_209_89, st_209_90, st_209_91, st_209_92, st_209_93, st_209_94, st_209_97, st_209_98, st_209_101, st_209_102, st_209_105, st_209_106, st_209_107, st_209_108, st_209_110, st_209_113, st_209_114, st_209_115, st_209_116, st_209_119, st_209_120, st_209_123, st_209_124, st_209_127, st_209_128, st_209_129, st_209_130, st_209_131, st_209_134, st_209_135, st_209_138, st_209_139, st_209_140, st_209_141, st_209_142, st_209_145, st_209_146, st_209_149, ini_209, fs_cl, fs_len, fs_rf, fs_M, fs_put, fs_cpy, ↓reduceIte, rv_ref, true_or, or_true, true_and, and_true, nI_ltI, ix_nI, nI_clamp, ps_i, ps_n, Option.bind_some, sm_0, sm_1, sm_2, sm_3, sm_4, sto_0, sto_1, sto_2, sto_3, sto_4, sto_5, sto_6, sto_7, sto_8, sto_9, sto_10, sto_11, sto_12, sto_13, sto_14, nlo_n, nlo_i, nlo_r, nlo_0, nlo_l, and_self, or_self, Nat.reduceEqDiff, Nat.reduceLT, Nat.reduceLeDiff, Nat.one_ne_zero, Nat.zero_ne_one, m0, nI_eq, p1, hV1.1, gk, q1, hV2.1, gk2, s1]
  rfl
theorem y_tl (hk : Md h o) (hV : Vr M o t k num mk) {f : Nat} (hf : f < 7) (x : Int32) (hn : M o 14 = nI n) (hn2 : n + 21 ≤ 40) {e : Nat} (he : 22 ≤ e) : ∃ M1, j_C e 209 [.ref o, .int (nI f), .int x] (FS h M) = some (some (.int (tlV num mk k f x).1), FS h M1) ∧ TrG o 14 (o + 7) M n M1 (tlV num mk k f x).2 := by
  have m0 := hk.1
  obtain ⟨e, rfl⟩ : ∃ d, e = d + 4 := ⟨e - 4, by omega⟩
  have hc : f = 0 ∨ f = 1 ∨ f = 2 ∨ f = 3 ∨ f = 4 ∨ f = 5 ∨ f = 6 := by omega
  have L0 : ∀ e, 16 ≤ e → ∃ M1, j_C e 209 [.ref o, .int (nI 0), .int x] (FS h M) = some (some (.int (tl0 num mk k x).1), FS h M1) ∧ TrG o 14 (o + 7) M n M1 (tl0 num mk k x).2 := fun e he => y_tl0 hk hV x hn (by omega) he
  unfold tlV
  rcases hc with c | c | c | c | c | c | c <;> subst c
  · rw [if_neg (by omega), if_neg (by omega)]
    exact L0 _ (by omega)
  · rw [if_neg (by omega), if_neg (by omega)]
    obtain ⟨M1, p1, p2⟩ := L0 (e + 3) (by omega)
    exact ⟨M1, up209 hk (by omega) (by omega) (by omega) (by omega) rfl p1, p2⟩
  · rw [if_neg (by omega), if_neg (by omega)]
    obtain ⟨M1, p1, p2⟩ := L0 (e + 3) (by omega)
    exact ⟨M1, up209 hk (by omega) (by omega) (by omega) (by omega) rfl p1, p2⟩
  · rw [if_neg (by omega), if_neg (by omega)]
    obtain ⟨M1, p1, p2⟩ := L0 (e + 3) (by omega)
    exact ⟨M1, up209 hk (by omega) (by omega) (by omega) (by omega) rfl p1, p2⟩
  · rw [if_pos (by omega)]
    obtain ⟨M1, p1, p2⟩ := r205 hk hn (by omega) (nI 50) (e := e + 3) (by omega)
    have hV1 := Vr_Tr p2 hV
    have ga : j_C (e + 3) 179 [.int (nI 4)] (FS h M1) = some (some (.int (nI 1)), FS h M1) := r179 (σ := FS h M1) (a := 4) (by omega) (e := e + 3) (by omega)
    have l0 := tl0_len (num := num) (mk := mk) (k := k) x
    obtain ⟨M2, q1, q2⟩ := y_tl0 hk hV1 x p2.1 (by show n + 1 + 12 ≤ 40; omega) (e := e + 2) (by omega)
    have q1 := up209 hk (f := 1) (by omega) (by omega) (by omega) (by omega) rfl q1
    have hV2 := Vr_Tr q2 hV1
    have gk := (Vr_k hk hV2 (e := e + 3) (by omega)).1
    obtain ⟨M3, s1, s2⟩ := y_sn hk hV2 hV2.2.2.2.2.2 (nI 2) q2.1 (by show n + 1 + (tl0 num mk k x).2.length + 2 ≤ 40; omega) (e := e + 3) (by omega)
    refine ⟨M3, ?_, Tr_c p2 (Tr_t q2 s2)⟩
    rw [show e + 1 + 2 = e + 3 by omega] at q1
    rw [show e + 4 = (e + 3) + 1 from rfl, j_C_eq]
    simp (disch := omega) only [st_209_0, st_209_1, st_209_2, st_209_3, st_209_36, st_209_37, st_209_39, st_209_42, st_209_43, st_209_44, st_209_45, st_209_48, st_209_49, st_209_52, st_209_53, st_209_56, st_209_57, st_209_58, st_209_59, st_209_60, st_209_61, st_209_64, st_209_65, st_209_68, st_209_69, st_209_72, st_209_73, st_209_74, st_209_75, st_209_77, st_209_80, st_209_81, st_209_82, st_209_85, st_209_86, st_209_89, st_209_90, st_209_91, st_209_92, st_209_93, st_209_94, st_209_97, st_209_98, st_209_101, st_209_102, st_209_105, st_209_106, st_209_107, st_209_108, st_209_110, st_209_113, st_209_114, st_209_115, st_209_116, st_209_119, st_209_120, st_209_123, st_209_124, st_209_127, st_209_128, st_209_129, st_209_130, st_209_131, st_209_134, st_209_135, st_209_138, st_209_139, st_209_140, st_209_141, st_209_142, st_209_145, st_209_146, st_209_149, ini_209, fs_cl, fs_len, fs_rf, fs_M, fs_put, fs_cpy, ↓reduceIte, rv_ref, true_or, or_true, true_and, and_true, nI_ltI, ix_nI, nI_clamp, ps_i, ps_n, Option.bind_some, sm_0, sm_1, sm_2, sm_3, sm_4, sto_0, sto_1, sto_2, sto_3, sto_4, sto_5, sto_6, sto_7, sto_8, sto_9, sto_10, sto_11, sto_12, sto_13, sto_14, nlo_n, nlo_i, nlo_r, nlo_0, nlo_l, and_self, or_self, Nat.reduceEqDiff, Nat.reduceLT, Nat.reduceLeDiff, Nat.one_ne_zero, Nat.zero_ne_one, m0, nI_eq, p1, ga, q1, hV2.1, gk, s1]
  · rw [if_neg (by omega), if_pos (by omega)]
    obtain ⟨M1, p1, p2⟩ := r205 hk hn (by omega) (nI 61) (e := e + 3) (by omega)
    have hV1 := Vr_Tr p2 hV
    have gk := (Vr_k hk hV1 (e := e + 3) (by omega)).1
    have l0 := sl_len (num := num) (mk := mk) (k := k) k x
    obtain ⟨M2, q1, q2⟩ := y_sl hk hV1 hV1.2.2.2.2.2 x p2.1 (by show n + 1 + 8 ≤ 40; omega) (e := e + 3) (by omega)
    have hV2 := Vr_Tr q2 hV1
    have ga : j_C (e + 3) 179 [.int (nI 5)] (FS h M2) = some (some (.int (nI 2)), FS h M2) := r179 (σ := FS h M2) (a := 5) (by omega) (e := e + 3) (by omega)
    obtain ⟨M3, s1, s2⟩ := y_tl0 hk hV2 x q2.1 (by show n + 1 + (slV num mk k k x).2.length + 12 ≤ 40; omega) (e := e + 2) (by omega)
    have s1 := up209 hk (f := 2) (by omega) (by omega) (by omega) (by omega) rfl s1
    rw [show e + 1 + 2 = e + 3 by omega] at s1
    refine ⟨M3, ?_, Tr_c p2 (Tr_t q2 s2)⟩
    rw [show e + 4 = (e + 3) + 1 from rfl, j_C_eq]
    simp (disch := omega) only [st_209_0, st_209_1, st_209_2, st_209_3, st_209_36, st_209_37, st_209_39, st_209_42, st_209_43, st_209_44, st_209_45, st_209_48, st_209_49, st_209_52, st_209_53, st_209_56, st_209_57, st_209_58, st_209_59, st_209_60, st_209_61, st_209_64, st_209_65, st_209_68, st_209_69, st_209_72, st_209_73, st_209_74, st_209_75, st_209_77, st_209_80, st_209_81, st_209_82, st_209_85, st_209_86, st_209_89, st_209_90, st_209_91, st_209_92, st_209_93, st_209_94, st_209_97, st_209_98, st_209_101, st_209_102, st_209_105, st_209_106, st_209_107, st_209_108, st_209_110, st_209_113, st_209_114, st_209_115, st_209_116, st_209_119, st_209_120, st_209_123, st_209_124, st_209_127, st_209_128, st_209_129, st_209_130, st_209_131, st_209_134, st_209_135, st_209_138, st_209_139, st_209_140, st_209_141, st_209_142, st_209_145, st_209_146, st_209_149, ini_209, fs_cl, fs_len, fs_rf, fs_M, fs_put, fs_cpy, ↓reduceIte, rv_ref, true_or, or_true, true_and, and_true, nI_ltI, ix_nI, nI_clamp, ps_i, ps_n, Option.bind_some, sm_0, sm_1, sm_2, sm_3, sm_4, sto_0, sto_1, sto_2, sto_3, sto_4, sto_5, sto_6, sto_7, sto_8, sto_9, sto_10, sto_11, sto_12, sto_13, sto_14, nlo_n, nlo_i, nlo_r, nlo_0, nlo_l, and_self, or_self, Nat.reduceEqDiff, Nat.reduceLT, Nat.reduceLeDiff, Nat.one_ne_zero, Nat.zero_ne_one, m0, nI_eq, p1, hV1.1, gk, q1, ga, s1]
  · rw [if_neg (by omega), if_neg (by omega)]
    obtain ⟨M1, p1, p2⟩ := L0 (e + 2) (by omega)
    exact ⟨M1, up209 hk (by omega) (by omega) (by omega) (by omega) rfl (up209 hk (f := 3) (by omega) (by omega) (by omega) (by omega) rfl p1), p2⟩
