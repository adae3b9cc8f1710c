/-! The reference: the fewest coins that pay. -/
variable {h : j_Hd} {M : Nat → Nat → Int32} {σ : j_St} {d o : Nat} {E : Nat → Nat} {z : Int32} {K0 K1 : List Int32}
def hbN (E : Nat → Nat) (t : Nat) : Nat → Nat
  | 0 => 0
  | c + 1 => if E (39 + 5 * c) = t then hbN E t c + 2 ^ c else hbN E t c
theorem hbN_lt (t : Nat) : ∀ n, hbN E t n < 2 ^ n := by
  intro n
  induction n with
  | zero => show 0 < 1; omega
  | succ n ih => unfold hbN; rw [Nat.pow_succ]; split <;> omega
theorem p256 {n : Nat} (h : n ≤ 8) : 2 ^ n ≤ 256 := Nat.pow_le_pow_right (by omega) h (n := 2)
theorem hb_N (t : Nat) : ∀ n, n ≤ 8 → hbS E t n = nI (hbN E t n) := by
  intro n
  induction n with
  | zero => intro _; rfl
  | succ n ih =>
    intro hn
    have l := hbN_lt (E := E) t n
    have l2 := p256 (show n ≤ 8 by omega)
    unfold hbS hbN
    rw [ih (by omega)]
    split
    · exact or_b n (by omega) _ (by omega) l
    · rfl
theorem hb_bit (t : Nat) : ∀ n, n ≤ 8 → ∀ k, k < 8 → bit_ (hbN E t n) k = if k < n ∧ E (39 + 5 * k) = t then 1 else 0 := by
  intro n
  induction n with
  | zero =>
    intro _ k hk
    rw [if_neg (by omega)]
    show 0 / 2 ^ k % 2 = 0
    rw [Nat.zero_div]
  | succ n ih =>
    intro hn k hk
    have l := hbN_lt (E := E) t n
    have l2 := p256 (show n ≤ 8 by omega)
    have i := ih (by omega) k hk
    unfold hbN
    by_cases e : E (39 + 5 * n) = t
    · rw [if_pos e, add_bb n (by omega) _ (by omega) l k hk]
      by_cases e2 : k = n
      · rw [if_pos e2, if_pos ⟨by omega, by rw [e2]; exact e⟩]
      · rw [if_neg e2, i]
        by_cases e3 : k < n ∧ E (39 + 5 * k) = t
        · rw [if_pos e3, if_pos ⟨by omega, e3.2⟩]
        · rw [if_neg e3, if_neg (fun hh => e3 ⟨by omega, hh.2⟩)]
    · rw [if_neg e, i]
      by_cases e3 : k < n ∧ E (39 + 5 * k) = t
      · rw [if_pos e3, if_pos ⟨by omega, e3.2⟩]
      · rw [if_neg e3, if_neg (fun hh => e3 ⟨by
          by_cases e2 : k = n
          · exact absurd (by rw [← e2]; exact hh.2) e
          · omega, hh.2⟩)]
def cntP (s : Nat) : Nat → Nat
  | 0 => 0
  | k + 1 => cntP s k + bit_ s k
theorem r193 {s : Nat} (hs : s < 256) {e : Nat} (he : 1 ≤ e) : j_C e 193 [.int (nI s)] σ = some (some (.int (nI (cnt s))), σ) := by
  obtain ⟨e, rfl⟩ := le_ex he
  have L : ∀ r k, r + k = 8 → j_X e 193 4 [some (.int (nI s)), some (.int (nI (cntP s k))), some (.int (nI k))] [] σ = some (some (.int (nI (cntP s 8))), σ) := by
    intro r
    induction r with
    | zero =>
      intro k hk
      have ek : k = 8 := by omega
      subst ek
      have e1 : ¬ 8 < 8 := by omega
      rw [st_193_4]
      simp (disch := omega) only [st_193_0, st_193_1, st_193_2, st_193_3, st_193_5, st_193_7, st_193_10, st_193_11, st_193_12, st_193_13, st_193_14, st_193_15, st_193_16, st_193_17, st_193_18, st_193_21, st_193_24, st_193_25, ini_193, fs_cl, fs_len, fs_rf, fs_M, fs_put, fs_cpy, ↓reduceIte, rv_ref, true_or, or_true, true_and, and_true, nI_ltI, ix_nI, nI_clamp, ps_i, ps_n, Option.bind_some, sm_0, sm_1, sm_2, sm_3, sm_4, sto_0, sto_1, sto_2, sto_3, sto_4, sto_5, sto_6, sto_7, sto_8, sto_9, sto_10, sto_11, sto_12, sto_13, sto_14, nlo_n, nlo_i, nlo_r, nlo_0, nlo_l, and_self, or_self, Nat.reduceEqDiff, Nat.reduceLT, Nat.reduceLeDiff, Nat.one_ne_zero, Nat.zero_ne_one, e1]
    | succ r ih =>
      intro k hk
      have e1 : k < 8 := by omega
      have gb := bt_l s hs k e1
      have hX := ih (k + 1) (by omega)
      rw [cntP] at hX
      rw [st_193_4]
      simp (disch := omega) only [st_193_0, st_193_1, st_193_2, st_193_3, st_193_5, st_193_7, st_193_10, st_193_11, st_193_12, st_193_13, st_193_14, st_193_15, st_193_16, st_193_17, st_193_18, st_193_21, st_193_24, st_193_25, ini_193, fs_cl, fs_len, fs_rf, fs_M, fs_put, fs_cpy, ↓reduceIte, rv_ref, true_or, or_true, true_and, and_true, nI_ltI, ix_nI, nI_clamp, ps_i, ps_n, Option.bind_some, sm_0, sm_1, sm_2, sm_3, sm_4, sto_0, sto_1, sto_2, sto_3, sto_4, sto_5, sto_6, sto_7, sto_8, sto_9, sto_10, sto_11, sto_12, sto_13, sto_14, nlo_n, nlo_i, nlo_r, nlo_0, nlo_l, and_self, or_self, Nat.reduceEqDiff, Nat.reduceLT, Nat.reduceLeDiff, Nat.one_ne_zero, Nat.zero_ne_one, e1, gb, nI_add, hX]
  have hX := L 8 0 (by omega)
  have ec : cntP s 8 = cnt s := by simp only [cntP, Nat.zero_add]; rfl
  rw [ec] at hX
  rw [j_C_eq]
  simp only [st_193_0, st_193_1, st_193_2, st_193_3, st_193_5, st_193_7, st_193_10, st_193_11, st_193_12, st_193_13, st_193_14, st_193_15, st_193_16, st_193_17, st_193_18, st_193_21, st_193_24, st_193_25, ini_193, fs_cl, fs_len, fs_rf, fs_M, fs_put, fs_cpy, ↓reduceIte, rv_ref, true_or, or_true, true_and, and_true, nI_ltI, ix_nI, nI_clamp, ps_i, ps_n, Option.bind_some, sm_0, sm_1, sm_2, sm_3, sm_4, sto_0, sto_1, sto_2, sto_3, sto_4, sto_5, sto_6, sto_7, sto_8, sto_9, sto_10, sto_11, sto_12, sto_13, sto_14, nlo_n, nlo_i, nlo_r, nlo_0, nlo_l, and_self, or_self, Nat.reduceEqDiff, Nat.reduceLT, Nat.reduceLeDiff, Nat.one_ne_zero, Nat.zero_ne_one]
  exact hX
theorem wsN_cg {W : Nat → Nat} {s s2 : Nat} : ∀ n, (∀ c, c < n → bit_ s2 c * W c = bit_ s c * W c) → wsN W s2 n = wsN W s n := by
  intro n
  induction n with
  | zero => intro _; rfl
  | succ n ih => intro he; rw [wsN, wsN, ih (fun c hc => he c (by omega)), he n (by omega)]
theorem wsN_0 {W : Nat → Nat} : ∀ n, wsN W 0 n = 0 := by
  intro n
  induction n with
  | zero => rfl
  | succ n ih =>
    rw [wsN, ih]
    have : bit_ 0 n = 0 := by show 0 / 2 ^ n % 2 = 0; rw [Nat.zero_div]
    rw [this]; omega
/-- the coins of a set that pays, and is smaller than all before, are all of worth -/
theorem pos_all {W : Nat → Nat} {n S s b : Nat} (hn : n ≤ 8) (hs : s < 256) (hS : 1 ≤ S) (hI : ∀ s', 1 ≤ s' → s' < s → S ≤ wsN W s' n → b ≠ 0 ∧ cnt b ≤ cnt s') (hT : (b = 0 ∨ cnt s < cnt b) ∧ S ≤ wsN W s n) : ∀ c, c < n → bit_ s c = 1 → 0 < W c := by
  intro c hc hb
  refine Nat.pos_of_ne_zero (fun h0 => ?_)
  obtain ⟨g1, g2, g3⟩ := less_b s hs c (by omega) hb
  have p1 : 1 ≤ 2 ^ c := Nat.pow_pos (by omega)
  have e := wsN_cg (W := W) (s := s) (s2 := s - 2 ^ c) n (fun k hk => by
    rw [g3 k (by omega)]
    by_cases e : k = c
    · rw [if_pos e, e, h0]; omega
    · rw [if_neg e])
  have h1 : 1 ≤ s - 2 ^ c := by
    refine Nat.pos_of_ne_zero (fun h => ?_)
    rw [h, wsN_0] at e
    omega
  obtain ⟨i1, i2⟩ := hI (s - 2 ^ c) h1 (by omega) (by omega)
  omega
/-- the sum of a set, as long as all is of worth -/
theorem r194i (hk : Md h o) (hw : WE E) {t u S H s : Nat} (hu : u < E 0) (hs : s < 256) (hsub : ∀ c, c < E 1 → bit_ s c = 1 → E (39 + 5 * c) = t) {x5 : Int32} {e : Nat} (he : 60 ≤ e) : ∀ r c (M : Nat → Nat → Int32) (o10 : Option Value), RC M o E z K0 K1 → r + c = E 1 → (∀ j, j < c → bit_ s j = 1 → nI 0 < wth E K0 j u) → ∃ M' isF allF x9 x10, j_X e 194 106 [some (.ref o), some (.int (nI t)), some (.int (nI u)), some (.int (nI S)), some (.int (nI H)), some (.int x5), some (.int (nI s)), some (.int (nI 1)), some (.int (nI (wsN (pw E K0 t u) s c))), some (.int (nI c)), o10] [] (FS h M) = j_X e 194 167 [some (.ref o), some (.int (nI t)), some (.int (nI u)), some (.int (nI S)), some (.int (nI H)), some (.int x5), some (.int (nI s)), some (.int isF), some (.int allF), x9, x10] [] (FS h M') ∧ wf o M M' ∧ (((∀ j, j < E 1 → bit_ s j = 1 → nI 0 < wth E K0 j u) ∧ isF = nI 1 ∧ allF = nI (wsN (pw E K0 t u) s (E 1))) ∨ (¬ (∀ j, j < E 1 → bit_ s j = 1 → nI 0 < wth E K0 j u) ∧ isF = nI 0)) := by
  have m0 := hk.1
  have q0 := hk.2.1.1
  have a1 := hk.2.1.2.1
  have a2 := hk.2.1.2.2.1
  have h8 := hw.2.1
  have e10 : ¬ nI 1 = nI 0 := by decide +kernel
  have e01 : ¬ nI 0 = nI 1 := by decide +kernel
  intro r
  induction r with
  | zero =>
    intro c M o10 hR hr hp
    have e1 : ¬ c < E 1 := by omega
    have et : c = E 1 := by omega
    have g0 := hR.1.1 1 (by omega) (by omega)
    subst et
    refine ⟨M, nI 1, _, some (.int (nI (E 1))), o10, ?_, wf_r, .inl ⟨hp, rfl, rfl⟩⟩
    rw [st_194_106]
    simp (disch := omega) only [st_194_108, st_194_109, st_194_112, st_194_113, st_194_114, st_194_117, st_194_119, st_194_122, st_194_124, st_194_126, st_194_127, st_194_128, st_194_129, st_194_130, st_194_133, st_194_134, st_194_136, st_194_137, st_194_140, st_194_142, st_194_144, st_194_147, st_194_148, st_194_151, st_194_152, st_194_154, st_194_156, st_194_158, st_194_159, st_194_161, st_194_164, ini_194, fs_cl, fs_len, fs_rf, fs_M, fs_put, fs_cpy, ↓reduceIte, rv_ref, true_or, or_true, true_and, and_true, nI_ltI, ix_nI, nI_clamp, ps_i, ps_n, Option.bind_some, sm_0, sm_1, sm_2, sm_3, sm_4, sto_0, sto_1, sto_2, sto_3, sto_4, sto_5, sto_6, sto_7, sto_8, sto_9, sto_10, sto_11, sto_12, sto_13, sto_14, nlo_n, nlo_i, nlo_r, nlo_0, nlo_l, and_self, or_self, Nat.reduceEqDiff, Nat.reduceLT, Nat.reduceLeDiff, Nat.one_ne_zero, Nat.zero_ne_one, m0, q0, a1, a2, g0, e1]
  | succ r ih =>
    intro c M o10 hR hr hp
    have e1 : c < E 1 := by omega
    have g0 := hR.1.1 1 (by omega) (by omega)
    have gb := bt_l s hs c (by omega)
    have b1 := bit_1 s c
    by_cases c1 : bit_ s c = 1
    · rw [c1] at gb
      obtain ⟨M1, p1, p2⟩ := r181 hk hR hw hu e1 (e := e) (by omega)
      have hR1 := RC_wf p2 hR
      by_cases c2 : nI 0 < wth E K0 c u
      · obtain ⟨M', isF, allF, x9, x10, s1, s2, s3⟩ := ih (c + 1) M1 (some (.int (wth E K0 c u))) hR1 (by omega) (fun j hj hb => by
          by_cases ej : j = c
          · rw [ej]; exact c2
          · exact hp j (by omega) hb)
        refine ⟨M', isF, allF, x9, x10, ?_, wf_t p2 s2, s3⟩
        have ew : nI (wsN (pw E K0 t u) s c) + wth E K0 c u = nI (wsN (pw E K0 t u) s (c + 1)) := by
          rw [wsN, c1, pw, if_pos (hsub c e1 c1), Nat.one_mul, ← nI_add]
          congr 1
          rw [nlt (by omega)] at c2
          rw [nI_z, Int.toNat_of_nonneg (by omega)]
          exact zI_of _
        rw [← s1, st_194_106]
        simp (disch := omega) only [st_194_108, st_194_109, st_194_112, st_194_113, st_194_114, st_194_117, st_194_119, st_194_122, st_194_124, st_194_126, st_194_127, st_194_128, st_194_129, st_194_130, st_194_133, st_194_134, st_194_136, st_194_137, st_194_140, st_194_142, st_194_144, st_194_147, st_194_148, st_194_151, st_194_152, st_194_154, st_194_156, st_194_158, st_194_159, st_194_161, st_194_164, ini_194, fs_cl, fs_len, fs_rf, fs_M, fs_put, fs_cpy, ↓reduceIte, rv_ref, true_or, or_true, true_and, and_true, nI_ltI, ix_nI, nI_clamp, ps_i, ps_n, Option.bind_some, sm_0, sm_1, sm_2, sm_3, sm_4, sto_0, sto_1, sto_2, sto_3, sto_4, sto_5, sto_6, sto_7, sto_8, sto_9, sto_10, sto_11, sto_12, sto_13, sto_14, nlo_n, nlo_i, nlo_r, nlo_0, nlo_l, and_self, or_self, Nat.reduceEqDiff, Nat.reduceLT, Nat.reduceLeDiff, Nat.one_ne_zero, Nat.zero_ne_one, m0, q0, a1, a2, g0, e1, e10, gb, p1, c2, ew, nI_add]
      · refine ⟨M1, nI 0, nI (wsN (pw E K0 t u) s c) + wth E K0 c u, some (.int (nI (c + 1))), some (.int (wth E K0 c u)), ?_, p2, .inr ⟨fun hh => c2 (hh c e1 c1), rfl⟩⟩
        · have g02 := hR1.1.1 1 (by omega) (by omega)
          rw [st_194_106]
          simp (disch := omega) only [st_194_108, st_194_109, st_194_112, st_194_113, st_194_114, st_194_117, st_194_119, st_194_122, st_194_124, st_194_126, st_194_127, st_194_128, st_194_129, st_194_130, st_194_133, st_194_134, st_194_136, st_194_137, st_194_140, st_194_142, st_194_144, st_194_147, st_194_148, st_194_151, st_194_152, st_194_154, st_194_156, st_194_158, st_194_159, st_194_161, st_194_164, ini_194, fs_cl, fs_len, fs_rf, fs_M, fs_put, fs_cpy, ↓reduceIte, rv_ref, true_or, or_true, true_and, and_true, nI_ltI, ix_nI, nI_clamp, ps_i, ps_n, Option.bind_some, sm_0, sm_1, sm_2, sm_3, sm_4, sto_0, sto_1, sto_2, sto_3, sto_4, sto_5, sto_6, sto_7, sto_8, sto_9, sto_10, sto_11, sto_12, sto_13, sto_14, nlo_n, nlo_i, nlo_r, nlo_0, nlo_l, and_self, or_self, Nat.reduceEqDiff, Nat.reduceLT, Nat.reduceLeDiff, Nat.one_ne_zero, Nat.zero_ne_one, m0, q0, a1, a2, g0, e1, e10, gb, p1, c2, nI_add]
          rw [st_194_106]
          by_cases c3 : c + 1 < E 1
          · simp (disch := omega) only [st_194_108, st_194_109, st_194_112, st_194_113, st_194_114, st_194_117, st_194_119, st_194_122, st_194_124, st_194_126, st_194_127, st_194_128, st_194_129, st_194_130, st_194_133, st_194_134, st_194_136, st_194_137, st_194_140, st_194_142, st_194_144, st_194_147, st_194_148, st_194_151, st_194_152, st_194_154, st_194_156, st_194_158, st_194_159, st_194_161, st_194_164, ini_194, fs_cl, fs_len, fs_rf, fs_M, fs_put, fs_cpy, ↓reduceIte, rv_ref, true_or, or_true, true_and, and_true, nI_ltI, ix_nI, nI_clamp, ps_i, ps_n, Option.bind_some, sm_0, sm_1, sm_2, sm_3, sm_4, sto_0, sto_1, sto_2, sto_3, sto_4, sto_5, sto_6, sto_7, sto_8, sto_9, sto_10, sto_11, sto_12, sto_13, sto_14, nlo_n, nlo_i, nlo_r, nlo_0, nlo_l, and_self, or_self, Nat.reduceEqDiff, Nat.reduceLT, Nat.reduceLeDiff, Nat.one_ne_zero, Nat.zero_ne_one, m0, q0, a1, a2, g02, c3]
          · simp (disch := omega) only [st_194_108, st_194_109, st_194_112, st_194_113, st_194_114, st_194_117, st_194_119, st_194_122, st_194_124, st_194_126, st_194_127, st_194_128, st_194_129, st_194_130, st_194_133, st_194_134, st_194_136, st_194_137, st_194_140, st_194_142, st_194_144, st_194_147, st_194_148, st_194_151, st_194_152, st_194_154, st_194_156, st_194_158, st_194_159, st_194_161, st_194_164, ini_194, fs_cl, fs_len, fs_rf, fs_M, fs_put, fs_cpy, ↓reduceIte, rv_ref, true_or, or_true, true_and, and_true, nI_ltI, ix_nI, nI_clamp, ps_i, ps_n, Option.bind_some, sm_0, sm_1, sm_2, sm_3, sm_4, sto_0, sto_1, sto_2, sto_3, sto_4, sto_5, sto_6, sto_7, sto_8, sto_9, sto_10, sto_11, sto_12, sto_13, sto_14, nlo_n, nlo_i, nlo_r, nlo_0, nlo_l, and_self, or_self, Nat.reduceEqDiff, Nat.reduceLT, Nat.reduceLeDiff, Nat.one_ne_zero, Nat.zero_ne_one, m0, q0, a1, a2, g02, c3]
    · have c0 : bit_ s c = 0 := by omega
      rw [c0] at gb
      obtain ⟨M', isF, allF, x9, x10, s1, s2, s3⟩ := ih (c + 1) M o10 hR (by omega) (fun j hj hb => by
        by_cases ej : j = c
        · rw [ej] at hb; exact absurd hb c1
        · exact hp j (by omega) hb)
      refine ⟨M', isF, allF, x9, x10, ?_, s2, s3⟩
      rw [wsN, c0, Nat.zero_mul, Nat.add_zero] at s1
      rw [← s1, st_194_106]
      simp (disch := omega) only [st_194_108, st_194_109, st_194_112, st_194_113, st_194_114, st_194_117, st_194_119, st_194_122, st_194_124, st_194_126, st_194_127, st_194_128, st_194_129, st_194_130, st_194_133, st_194_134, st_194_136, st_194_137, st_194_140, st_194_142, st_194_144, st_194_147, st_194_148, st_194_151, st_194_152, st_194_154, st_194_156, st_194_158, st_194_159, st_194_161, st_194_164, ini_194, fs_cl, fs_len, fs_rf, fs_M, fs_put, fs_cpy, ↓reduceIte, rv_ref, true_or, or_true, true_and, and_true, nI_ltI, ix_nI, nI_clamp, ps_i, ps_n, Option.bind_some, sm_0, sm_1, sm_2, sm_3, sm_4, sto_0, sto_1, sto_2, sto_3, sto_4, sto_5, sto_6, sto_7, sto_8, sto_9, sto_10, sto_11, sto_12, sto_13, sto_14, nlo_n, nlo_i, nlo_r, nlo_0, nlo_l, and_self, or_self, Nat.reduceEqDiff, Nat.reduceLT, Nat.reduceLeDiff, Nat.one_ne_zero, Nat.zero_ne_one, m0, q0, a1, a2, g0, e1, e10, e01, gb, nI_add]
def bst (b : Nat) : Int32 := if b = 0 then -1 else nI b
theorem r194 (hk : Md h o) (hR : RC M o E z K0 K1) (hw : WE E) {t u S : Nat} (ht : t < E 0) (hu : u < E 0) (htu : t ≠ u) (hS1 : 1 ≤ S) (hS : S ≤ 999) {e : Nat} (he : 61 ≤ e) : ∃ M', wf o M M' ∧ j_C e 194 [.ref o, .int (nI t), .int (nI u), .int (nI S)] (FS h M) = if pyS (pw E K0 t u) (E 1) S (2 ^ E 1 - 1) 1 0 = 0 then some (some (.int (fl 2)), FS h (fd o 2 M')) else some (some (.int (nI (pyS (pw E K0 t u) (E 1) S (2 ^ E 1 - 1) 1 0))), FS h M') := by
  obtain ⟨e, rfl⟩ : ∃ d, e = d + 1 := ⟨e - 1, by omega⟩
  have m0 := hk.1
  have q0 := hk.2.1.1
  have a1 := hk.2.1.2.1
  have a2 := hk.2.1.2.2.1
  have h6 := hw.1
  have h8 := hw.2.1
  have e10 : ¬ nI 1 = nI 0 := by decide +kernel
  have em : (-1 : Int32) < nI 0 := by decide +kernel
  have p8 := p256 h8
  have gH := r175e (t := t) hk hR.1 hw (by omega) (e := e) (by omega)
  rw [hb_N t (E 1) h8] at gH
  have hH : hbN E t (E 1) < 256 := by have := hbN_lt (E := E) t (E 1); omega
  have hHb := hb_bit (E := E) t (E 1) h8
  have wl : ∀ s, wsN (pw E K0 t u) s (E 1) ≤ 108 * E 1 := fun s => wsN_le (E 1) (fun c hc => pw_le hw hu hc)
  have L : ∀ r s bs (M : Nat → Nat → Int32) (o7 o8 o9 o10 : Option Value), RC M o E z K0 K1 → r + s = 2 ^ E 1 → bs < 256 → (∀ s', 1 ≤ s' → s' < s → S ≤ wsN (pw E K0 t u) s' (E 1) → bs ≠ 0 ∧ cnt bs ≤ cnt s') → ∃ M', wf o M M' ∧ j_X e 194 52 [some (.ref o), some (.int (nI t)), some (.int (nI u)), some (.int (nI S)), some (.int (nI (hbN E t (E 1)))), some (.int (bst bs)), some (.int (nI s)), o7, o8, o9, o10] [] (FS h M) = if pyS (pw E K0 t u) (E 1) S r s bs = 0 then some (some (.int (fl 2)), FS h (fd o 2 M')) else some (some (.int (nI (pyS (pw E K0 t u) (E 1) S r s bs))), FS h M') := by
    intro r
    induction r with
    | zero =>
      intro s bs M o7 o8 o9 o10 hR hr hb hI
      have e1 : ¬ s < 2 ^ E 1 := by omega
      have g0 := hR.1.1 1 (by omega) (by omega)
      have gf := r142 (M := M) hk (k := 2) (by omega) (e := e) (by omega)
      refine ⟨M, wf_r, ?_⟩
      unfold pyS bst
      by_cases c0 : bs = 0
      · rw [if_pos c0, if_pos c0]
        rw [st_194_52]
        simp (disch := omega) only [st_194_0, st_194_1, st_194_2, st_194_5, st_194_8, st_194_9, st_194_10, st_194_13, st_194_16, st_194_17, st_194_18, st_194_21, st_194_22, st_194_23, st_194_24, st_194_27, st_194_30, st_194_33, st_194_34, st_194_35, st_194_38, st_194_39, st_194_40, st_194_41, st_194_44, st_194_46, st_194_47, st_194_49, st_194_50, st_194_54, st_194_55, st_194_56, st_194_59, st_194_60, st_194_61, st_194_62, st_194_65, st_194_67, st_194_69, st_194_70, st_194_71, st_194_72, st_194_75, st_194_77, st_194_80, st_194_82, st_194_85, st_194_87, st_194_90, st_194_93, st_194_94, st_194_97, st_194_98, st_194_100, st_194_101, st_194_103, st_194_104, st_194_108, st_194_109, st_194_112, st_194_113, st_194_114, st_194_117, st_194_119, st_194_122, st_194_124, st_194_126, st_194_127, st_194_128, st_194_129, st_194_130, st_194_133, st_194_134, st_194_136, st_194_137, st_194_140, st_194_142, st_194_144, st_194_147, st_194_148, st_194_151, st_194_152, st_194_154, st_194_156, st_194_158, st_194_159, st_194_161, st_194_164, st_194_167, st_194_169, st_194_172, st_194_174, st_194_175, st_194_178, st_194_180, st_194_183, st_194_185, st_194_187, st_194_190, st_194_193, st_194_195, st_194_198, st_194_199, st_194_200, st_194_203, st_194_206, st_194_208, ini_194, fs_cl, fs_len, fs_rf, fs_M, fs_put, fs_cpy, ↓reduceIte, rv_ref, true_or, or_true, true_and, and_true, nI_ltI, ix_nI, nI_clamp, ps_i, ps_n, Option.bind_some, sm_0, sm_1, sm_2, sm_3, sm_4, sto_0, sto_1, sto_2, sto_3, sto_4, sto_5, sto_6, sto_7, sto_8, sto_9, sto_10, sto_11, sto_12, sto_13, sto_14, nlo_n, nlo_i, nlo_r, nlo_0, nlo_l, and_self, or_self, Nat.reduceEqDiff, Nat.reduceLT, Nat.reduceLeDiff, Nat.one_ne_zero, Nat.zero_ne_one, m0, q0, a1, a2, g0, pow_n _ h8, e1, em, gf]
      · have ev : ¬ nI bs < nI 0 := nI_nlt (Nat.zero_le _) (by omega)
        rw [if_neg c0, if_neg c0]
        rw [st_194_52]
        simp (disch := omega) only [st_194_0, st_194_1, st_194_2, st_194_5, st_194_8, st_194_9, st_194_10, st_194_13, st_194_16, st_194_17, st_194_18, st_194_21, st_194_22, st_194_23, st_194_24, st_194_27, st_194_30, st_194_33, st_194_34, st_194_35, st_194_38, st_194_39, st_194_40, st_194_41, st_194_44, st_194_46, st_194_47, st_194_49, st_194_50, st_194_54, st_194_55, st_194_56, st_194_59, st_194_60, st_194_61, st_194_62, st_194_65, st_194_67, st_194_69, st_194_70, st_194_71, st_194_72, st_194_75, st_194_77, st_194_80, st_194_82, st_194_85, st_194_87, st_194_90, st_194_93, st_194_94, st_194_97, st_194_98, st_194_100, st_194_101, st_194_103, st_194_104, st_194_108, st_194_109, st_194_112, st_194_113, st_194_114, st_194_117, st_194_119, st_194_122, st_194_124, st_194_126, st_194_127, st_194_128, st_194_129, st_194_130, st_194_133, st_194_134, st_194_136, st_194_137, st_194_140, st_194_142, st_194_144, st_194_147, st_194_148, st_194_151, st_194_152, st_194_154, st_194_156, st_194_158, st_194_159, st_194_161, st_194_164, st_194_167, st_194_169, st_194_172, st_194_174, st_194_175, st_194_178, st_194_180, st_194_183, st_194_185, st_194_187, st_194_190, st_194_193, st_194_195, st_194_198, st_194_199, st_194_200, st_194_203, st_194_206, st_194_208, ini_194, fs_cl, fs_len, fs_rf, fs_M, fs_put, fs_cpy, ↓reduceIte, rv_ref, true_or, or_true, true_and, and_true, nI_ltI, ix_nI, nI_clamp, ps_i, ps_n, Option.bind_some, sm_0, sm_1, sm_2, sm_3, sm_4, sto_0, sto_1, sto_2, sto_3, sto_4, sto_5, sto_6, sto_7, sto_8, sto_9, sto_10, sto_11, sto_12, sto_13, sto_14, nlo_n, nlo_i, nlo_r, nlo_0, nlo_l, and_self, or_self, Nat.reduceEqDiff, Nat.reduceLT, Nat.reduceLeDiff, Nat.one_ne_zero, Nat.zero_ne_one, m0, q0, a1, a2, g0, pow_n _ h8, e1, ev]
    | succ r ih =>
      intro s bs M o7 o8 o9 o10 hR hr hb hI
      have e1 : s < 2 ^ E 1 := by omega
      have s256 : s < 256 := by omega
      have g0 := hR.1.1 1 (by omega) (by omega)
      have gs := sub_d s s256 _ hH
      have gl := sub_b s256 hH
      have pl : Nat.land s (255 - hbN E t (E 1)) ≤ s := Nat.and_le_left
      have ws := wl s
      have top := top_b (E 1) (by omega) s s256 e1
      have cs := cnt_le s
      have cb := cnt_le bs
      -- what the rest gives
      have fin : ∀ (b' : Nat) (M1 : Nat → Nat → Int32) (x7 x8 x9 x10 : Option Value), wf o M M1 → b' = (if (bs = 0 ∨ cnt s < cnt bs) ∧ S ≤ wsN (pw E K0 t u) s (E 1) then s else bs) → ∃ M', wf o M M' ∧ j_X e 194 52 [some (.ref o), some (.int (nI t)), some (.int (nI u)), some (.int (nI S)), some (.int (nI (hbN E t (E 1)))), some (.int (bst b')), some (.int (nI (s + 1))), x7, x8, x9, x10] [] (FS h M1) = if pyS (pw E K0 t u) (E 1) S (r + 1) s bs = 0 then some (some (.int (fl 2)), FS h (fd o 2 M')) else some (some (.int (nI (pyS (pw E K0 t u) (E 1) S (r + 1) s bs))), FS h M') := by
        intro b' M1 x7 x8 x9 x10 hwf hb'
        subst hb'
        obtain ⟨M', f1, f2⟩ := ih (s + 1) (if (bs = 0 ∨ cnt s < cnt bs) ∧ S ≤ wsN (pw E K0 t u) s (E 1) then s else bs) M1 x7 x8 x9 x10 (RC_wf hwf hR) (by omega) (by split <;> omega) (by
          intro s' h1 h2 h3
          by_cases es : s' = s
          · subst es
            by_cases hT : (bs = 0 ∨ cnt s' < cnt bs) ∧ S ≤ wsN (pw E K0 t u) s' (E 1)
            · rw [if_pos hT]; exact ⟨by omega, Nat.le_refl _⟩
            · rw [if_neg hT]
              have : ¬ (bs = 0 ∨ cnt s' < cnt bs) := fun hh => hT ⟨hh, h3⟩
              omega
          · obtain ⟨i1, i2⟩ := hI s' h1 (by omega) h3
            by_cases hT : (bs = 0 ∨ cnt s < cnt bs) ∧ S ≤ wsN (pw E K0 t u) s (E 1)
            · rw [if_pos hT]
              have s0 : s ≠ 0 := by omega
              exact ⟨s0, by omega⟩
            · rw [if_neg hT]; exact ⟨i1, i2⟩)
        exact ⟨M', wf_t hwf f1, f2⟩
      -- the checks before the sum
      by_cases cA : Nat.land s (255 - hbN E t (E 1)) = 0 ∧ (bs = 0 ∨ cnt s < cnt bs)
      · obtain ⟨cl, cc⟩ := cA
        have hsub : ∀ c, c < E 1 → bit_ s c = 1 → E (39 + 5 * c) = t := by
          intro c hc hb1
          have := gl.mp cl c (by omega)
          rw [hHb c (by omega)] at this
          by_cases ee : c < E 1 ∧ E (39 + 5 * c) = t
          · exact ee.2
          · rw [if_neg ee] at this; omega
        obtain ⟨M1, isF, allF, x9, x10, s1, s2, s3⟩ := r194i (t := t) (S := S) (H := hbN E t (E 1)) (x5 := bst bs) hk hw hu s256 hsub (e := e) (by omega) (E 1) 0 M o10 hR (by omega) (fun j hj => by omega)
        have run : ∀ R, j_X e 194 106 [some (.ref o), some (.int (nI t)), some (.int (nI u)), some (.int (nI S)), some (.int (nI (hbN E t (E 1)))), some (.int (bst bs)), some (.int (nI s)), some (.int (nI 1)), some (.int (nI (wsN (pw E K0 t u) s 0))), some (.int (nI 0)), o10] [] (FS h M) = R → j_X e 194 52 [some (.ref o), some (.int (nI t)), some (.int (nI u)), some (.int (nI S)), some (.int (nI (hbN E t (E 1)))), some (.int (bst bs)), some (.int (nI s)), o7, o8, o9, o10] [] (FS h M) = R := by
          intro R hX
          have hX2 : j_X e 194 106 [some (.ref o), some (.int (nI t)), some (.int (nI u)), some (.int (nI S)), some (.int (nI (hbN E t (E 1)))), some (.int (bst bs)), some (.int (nI s)), some (.int (nI 1)), some (.int (nI 0)), some (.int (nI 0)), o10] [] (FS h M) = R := hX
          rw [← hX2]
          by_cases c0 : bs = 0
          · have eb : bst bs = -1 := by unfold bst; rw [if_pos c0]
            rw [eb, st_194_52]
            simp (disch := omega) only [st_194_54, st_194_55, st_194_56, st_194_59, st_194_60, st_194_61, st_194_62, st_194_65, st_194_67, st_194_69, st_194_70, st_194_71, st_194_72, st_194_75, st_194_77, st_194_80, st_194_82, st_194_85, st_194_87, st_194_90, st_194_93, st_194_94, st_194_97, st_194_98, st_194_100, st_194_101, st_194_103, st_194_104, ini_194, fs_cl, fs_len, fs_rf, fs_M, fs_put, fs_cpy, ↓reduceIte, rv_ref, true_or, or_true, true_and, and_true, nI_ltI, ix_nI, nI_clamp, ps_i, ps_n, Option.bind_some, sm_0, sm_1, sm_2, sm_3, sm_4, sto_0, sto_1, sto_2, sto_3, sto_4, sto_5, sto_6, sto_7, sto_8, sto_9, sto_10, sto_11, sto_12, sto_13, sto_14, nlo_n, nlo_i, nlo_r, nlo_0, nlo_l, and_self, or_self, Nat.reduceEqDiff, Nat.reduceLT, Nat.reduceLeDiff, Nat.one_ne_zero, Nat.zero_ne_one, m0, q0, a1, a2, g0, pow_n _ h8, e1, gs, nI_eq, cl, em]
          · have eb : bst bs = nI bs := by unfold bst; rw [if_neg c0]
            have ev : ¬ nI bs < nI 0 := nI_nlt (Nat.zero_le _) (by omega)
            have cc2 : cnt s < cnt bs := cc.resolve_left c0
            rw [eb, st_194_52]
            simp (disch := omega) only [st_194_54, st_194_55, st_194_56, st_194_59, st_194_60, st_194_61, st_194_62, st_194_65, st_194_67, st_194_69, st_194_70, st_194_71, st_194_72, st_194_75, st_194_77, st_194_80, st_194_82, st_194_85, st_194_87, st_194_90, st_194_93, st_194_94, st_194_97, st_194_98, st_194_100, st_194_101, st_194_103, st_194_104, ini_194, fs_cl, fs_len, fs_rf, fs_M, fs_put, fs_cpy, ↓reduceIte, rv_ref, true_or, or_true, true_and, and_true, nI_ltI, ix_nI, nI_clamp, ps_i, ps_n, Option.bind_some, sm_0, sm_1, sm_2, sm_3, sm_4, sto_0, sto_1, sto_2, sto_3, sto_4, sto_5, sto_6, sto_7, sto_8, sto_9, sto_10, sto_11, sto_12, sto_13, sto_14, nlo_n, nlo_i, nlo_r, nlo_0, nlo_l, and_self, or_self, Nat.reduceEqDiff, Nat.reduceLT, Nat.reduceLeDiff, Nat.one_ne_zero, Nat.zero_ne_one, m0, q0, a1, a2, g0, pow_n _ h8, e1, gs, nI_eq, cl, ev, r193, cc2]
        rcases s3 with ⟨ap, f1, f2⟩ | ⟨ap, f1⟩
        · subst f1; subst f2
          by_cases c4 : wsN (pw E K0 t u) s (E 1) < S
          · obtain ⟨M', y1, y2⟩ := fin bs M1 (some (.int (nI 1))) (some (.int (nI (wsN (pw E K0 t u) s (E 1))))) x9 x10 s2 (by rw [if_neg (by omega)])
            refine ⟨M', y1, run _ (s1.trans ?_)⟩
            rw [← y2]
            simp (disch := omega) only [st_194_167, st_194_169, st_194_172, st_194_174, st_194_175, st_194_178, st_194_180, st_194_183, st_194_185, st_194_187, st_194_190, ini_194, fs_cl, fs_len, fs_rf, fs_M, fs_put, fs_cpy, ↓reduceIte, rv_ref, true_or, or_true, true_and, and_true, nI_ltI, ix_nI, nI_clamp, ps_i, ps_n, Option.bind_some, sm_0, sm_1, sm_2, sm_3, sm_4, sto_0, sto_1, sto_2, sto_3, sto_4, sto_5, sto_6, sto_7, sto_8, sto_9, sto_10, sto_11, sto_12, sto_13, sto_14, nlo_n, nlo_i, nlo_r, nlo_0, nlo_l, and_self, or_self, Nat.reduceEqDiff, Nat.reduceLT, Nat.reduceLeDiff, Nat.one_ne_zero, Nat.zero_ne_one, e10, c4, nI_add]
          · have eb : bst s = nI s := by
              unfold bst
              rw [if_neg (fun h0 => by rw [h0, wsN_0] at c4; omega)]
            obtain ⟨M', y1, y2⟩ := fin s M1 (some (.int (nI 1))) (some (.int (nI (wsN (pw E K0 t u) s (E 1))))) x9 x10 s2 (by rw [if_pos ⟨cc, by omega⟩])
            rw [eb] at y2
            refine ⟨M', y1, run _ (s1.trans ?_)⟩
            rw [← y2]
            simp (disch := omega) only [st_194_167, st_194_169, st_194_172, st_194_174, st_194_175, st_194_178, st_194_180, st_194_183, st_194_185, st_194_187, st_194_190, ini_194, fs_cl, fs_len, fs_rf, fs_M, fs_put, fs_cpy, ↓reduceIte, rv_ref, true_or, or_true, true_and, and_true, nI_ltI, ix_nI, nI_clamp, ps_i, ps_n, Option.bind_some, sm_0, sm_1, sm_2, sm_3, sm_4, sto_0, sto_1, sto_2, sto_3, sto_4, sto_5, sto_6, sto_7, sto_8, sto_9, sto_10, sto_11, sto_12, sto_13, sto_14, nlo_n, nlo_i, nlo_r, nlo_0, nlo_l, and_self, or_self, Nat.reduceEqDiff, Nat.reduceLT, Nat.reduceLeDiff, Nat.one_ne_zero, Nat.zero_ne_one, e10, c4, nI_add]
        · subst f1
          obtain ⟨M', y1, y2⟩ := fin bs M1 (some (.int (nI 0))) (some (.int allF)) x9 x10 s2 (by
            rw [if_neg]
            intro hT
            refine ap (fun j hj hb1 => ?_)
            have pp := pos_all h8 s256 hS1 hI hT j hj hb1
            unfold pw at pp
            rw [if_pos (hsub j hj hb1)] at pp
            rw [nlt (by omega)]; omega)
          refine ⟨M', y1, run _ (s1.trans ?_)⟩
          rw [← y2]
          simp (disch := omega) only [st_194_167, st_194_169, st_194_172, st_194_174, st_194_175, st_194_178, st_194_180, st_194_183, st_194_185, st_194_187, st_194_190, ini_194, fs_cl, fs_len, fs_rf, fs_M, fs_put, fs_cpy, ↓reduceIte, rv_ref, true_or, or_true, true_and, and_true, nI_ltI, ix_nI, nI_clamp, ps_i, ps_n, Option.bind_some, sm_0, sm_1, sm_2, sm_3, sm_4, sto_0, sto_1, sto_2, sto_3, sto_4, sto_5, sto_6, sto_7, sto_8, sto_9, sto_10, sto_11, sto_12, sto_13, sto_14, nlo_n, nlo_i, nlo_r, nlo_0, nlo_l, and_self, or_self, Nat.reduceEqDiff, Nat.reduceLT, Nat.reduceLeDiff, Nat.one_ne_zero, Nat.zero_ne_one, nI_add]
      · obtain ⟨M', y1, y2⟩ := fin bs M (some (.int (nI 0))) (some (.int (nI 0))) (some (.int (nI 0))) o10 wf_r (by
          rw [if_neg]
          intro hT
          refine cA ⟨gl.mpr (fun c hc => ?_), hT.1⟩
          have b1 := bit_1 s c
          by_cases hb1 : bit_ s c = 1
          · by_cases hc1 : c < E 1
            · have pp := pos_all h8 s256 hS1 hI hT c hc1 hb1
              unfold pw at pp
              by_cases hh : E (39 + 5 * c) = t
              · rw [hHb c hc, if_pos ⟨hc1, hh⟩]; omega
              · rw [if_neg hh] at pp; omega
            · rw [top c hc (by omega)] at hb1; omega
          · omega)
        refine ⟨M', y1, ?_⟩
        rw [← y2]
        have body : ∀ R, j_X e 194 106 [some (.ref o), some (.int (nI t)), some (.int (nI u)), some (.int (nI S)), some (.int (nI (hbN E t (E 1)))), some (.int (bst bs)), some (.int (nI s)), some (.int (nI 0)), some (.int (nI 0)), some (.int (nI 0)), o10] [] (FS h M) = R → j_X e 194 52 [some (.ref o), some (.int (nI t)), some (.int (nI u)), some (.int (nI S)), some (.int (nI (hbN E t (E 1)))), some (.int (bst bs)), some (.int (nI s)), o7, o8, o9, o10] [] (FS h M) = R := by
          intro R hX
          rw [← hX]
          by_cases cl : Nat.land s (255 - hbN E t (E 1)) = 0
          · have cn : ¬ (bs = 0 ∨ cnt s < cnt bs) := fun hh => cA ⟨cl, hh⟩
            have c0 : ¬ bs = 0 := fun hh => cn (.inl hh)
            have eb : bst bs = nI bs := by unfold bst; rw [if_neg c0]
            have ev : ¬ nI bs < nI 0 := nI_nlt (Nat.zero_le _) (by omega)
            have cc2 : ¬ cnt s < cnt bs := fun hh => cn (.inr hh)
            rw [eb, st_194_52]
            simp (disch := omega) only [st_194_54, st_194_55, st_194_56, st_194_59, st_194_60, st_194_61, st_194_62, st_194_65, st_194_67, st_194_69, st_194_70, st_194_71, st_194_72, st_194_75, st_194_77, st_194_80, st_194_82, st_194_85, st_194_87, st_194_90, st_194_93, st_194_94, st_194_97, st_194_98, st_194_100, st_194_101, st_194_103, st_194_104, ini_194, fs_cl, fs_len, fs_rf, fs_M, fs_put, fs_cpy, ↓reduceIte, rv_ref, true_or, or_true, true_and, and_true, nI_ltI, ix_nI, nI_clamp, ps_i, ps_n, Option.bind_some, sm_0, sm_1, sm_2, sm_3, sm_4, sto_0, sto_1, sto_2, sto_3, sto_4, sto_5, sto_6, sto_7, sto_8, sto_9, sto_10, sto_11, sto_12, sto_13, sto_14, nlo_n, nlo_i, nlo_r, nlo_0, nlo_l, and_self, or_self, Nat.reduceEqDiff, Nat.reduceLT, Nat.reduceLeDiff, Nat.one_ne_zero, Nat.zero_ne_one, m0, q0, a1, a2, g0, pow_n _ h8, e1, gs, nI_eq, cl, ev, r193, cc2]
          · rw [st_194_52]
            simp (disch := omega) only [st_194_54, st_194_55, st_194_56, st_194_59, st_194_60, st_194_61, st_194_62, st_194_65, st_194_67, st_194_69, st_194_70, st_194_71, st_194_72, st_194_75, st_194_77, st_194_80, st_194_82, st_194_85, st_194_87, st_194_90, st_194_93, st_194_94, st_194_97, st_194_98, st_194_100, st_194_101, st_194_103, st_194_104, ini_194, fs_cl, fs_len, fs_rf, fs_M, fs_put, fs_cpy, ↓reduceIte, rv_ref, true_or, or_true, true_and, and_true, nI_ltI, ix_nI, nI_clamp, ps_i, ps_n, Option.bind_some, sm_0, sm_1, sm_2, sm_3, sm_4, sto_0, sto_1, sto_2, sto_3, sto_4, sto_5, sto_6, sto_7, sto_8, sto_9, sto_10, sto_11, sto_12, sto_13, sto_14, nlo_n, nlo_i, nlo_r, nlo_0, nlo_l, and_self, or_self, Nat.reduceEqDiff, Nat.reduceLT, Nat.reduceLeDiff, Nat.one_ne_zero, Nat.zero_ne_one, m0, q0, a1, a2, g0, pow_n _ h8, e1, gs, nI_eq, cl]
        apply body
        rw [st_194_106]
        by_cases c3 : 0 < E 1
        · simp (disch := omega) only [st_194_108, st_194_109, st_194_112, st_194_113, st_194_114, st_194_117, st_194_119, st_194_122, st_194_124, st_194_126, st_194_127, st_194_128, st_194_129, st_194_130, st_194_133, st_194_134, st_194_136, st_194_137, st_194_140, st_194_142, st_194_144, st_194_147, st_194_148, st_194_151, st_194_152, st_194_154, st_194_156, st_194_158, st_194_159, st_194_161, st_194_164, st_194_167, st_194_169, st_194_172, st_194_174, st_194_175, st_194_178, st_194_180, st_194_183, st_194_185, st_194_187, st_194_190, ini_194, fs_cl, fs_len, fs_rf, fs_M, fs_put, fs_cpy, ↓reduceIte, rv_ref, true_or, or_true, true_and, and_true, nI_ltI, ix_nI, nI_clamp, ps_i, ps_n, Option.bind_some, sm_0, sm_1, sm_2, sm_3, sm_4, sto_0, sto_1, sto_2, sto_3, sto_4, sto_5, sto_6, sto_7, sto_8, sto_9, sto_10, sto_11, sto_12, sto_13, sto_14, nlo_n, nlo_i, nlo_r, nlo_0, nlo_l, and_self, or_self, Nat.reduceEqDiff, Nat.reduceLT, Nat.reduceLeDiff, Nat.one_ne_zero, Nat.zero_ne_one, m0, q0, a1, a2, g0, c3, nI_add]
        · simp (disch := omega) only [st_194_108, st_194_109, st_194_112, st_194_113, st_194_114, st_194_117, st_194_119, st_194_122, st_194_124, st_194_126, st_194_127, st_194_128, st_194_129, st_194_130, st_194_133, st_194_134, st_194_136, st_194_137, st_194_140, st_194_142, st_194_144, st_194_147, st_194_148, st_194_151, st_194_152, st_194_154, st_194_156, st_194_158, st_194_159, st_194_161, st_194_164, st_194_167, st_194_169, st_194_172, st_194_174, st_194_175, st_194_178, st_194_180, st_194_183, st_194_185, st_194_187, st_194_190, ini_194, fs_cl, fs_len, fs_rf, fs_M, fs_put, fs_cpy, ↓reduceIte, rv_ref, true_or, or_true, true_and, and_true, nI_ltI, ix_nI, nI_clamp, ps_i, ps_n, Option.bind_some, sm_0, sm_1, sm_2, sm_3, sm_4, sto_0, sto_1, sto_2, sto_3, sto_4, sto_5, sto_6, sto_7, sto_8, sto_9, sto_10, sto_11, sto_12, sto_13, sto_14, nlo_n, nlo_i, nlo_r, nlo_0, nlo_l, and_self, or_self, Nat.reduceEqDiff, Nat.reduceLT, Nat.reduceLeDiff, Nat.one_ne_zero, Nat.zero_ne_one, m0, q0, a1, a2, g0, c3, nI_add]
  have gt := r145ye hk hR.1 h6 ht (e := e) (by omega)
  have gu := r145ye hk hR.1 h6 hu (e := e) (by omega)
  have gl := r143e (σ := FS h M) (nI S).toInt64 (lN 1) (lN 999) (e := e) (by omega)
  rw [lin_in hS1 hS (by omega)] at gl
  have pp := Nat.pow_pos (n := E 1) (show 0 < 2 by omega)
  obtain ⟨M', f1, f2⟩ := L (2 ^ E 1 - 1) 1 0 M none none none none hR (by omega) (by omega) (fun s' h1 h2 => by omega)
  refine ⟨M', f1, ?_⟩
  rw [← f2, j_C_eq]
  simp (disch := omega) only [st_194_0, st_194_1, st_194_2, st_194_5, st_194_8, st_194_9, st_194_10, st_194_13, st_194_16, st_194_17, st_194_18, st_194_21, st_194_22, st_194_23, st_194_24, st_194_27, st_194_30, st_194_33, st_194_34, st_194_35, st_194_38, st_194_39, st_194_40, st_194_41, st_194_44, st_194_46, st_194_47, st_194_49, st_194_50, ini_194, fs_cl, fs_len, fs_rf, fs_M, fs_put, fs_cpy, ↓reduceIte, rv_ref, true_or, or_true, true_and, and_true, nI_ltI, ix_nI, nI_clamp, ps_i, ps_n, Option.bind_some, sm_0, sm_1, sm_2, sm_3, sm_4, sto_0, sto_1, sto_2, sto_3, sto_4, sto_5, sto_6, sto_7, sto_8, sto_9, sto_10, sto_11, sto_12, sto_13, sto_14, nlo_n, nlo_i, nlo_r, nlo_0, nlo_l, and_self, or_self, Nat.reduceEqDiff, Nat.reduceLT, Nat.reduceLeDiff, Nat.one_ne_zero, Nat.zero_ne_one, m0, gt, gu, gl, e10, nI_eq, htu, gH]
  rfl
