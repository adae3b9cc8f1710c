/-! The class's Thoughts: launder. -/
variable {h : j_Hd} {M : Nat → Nat → Int32} {σ : j_St} {d b w : Nat} {E T : Nat → Nat} {z : Int32} {K0 K1 : List Int32}
/-- pictures that are alike but for the sales -/
def q3 (E T : Nat → Nat) : Prop := ∀ j, j ≠ 3 → T j = E j
theorem wth_cg {c t : Nat} (he : ∀ j, j ≠ 3 → T j = E j) : wth T K0 c t = wth E K0 c t := by
  have e1 := he (8 + 5 * t) (by omega)
  have e2 := he (9 + 5 * t) (by omega)
  have e3 := he (12 + 5 * t) (by omega)
  have e4 := he (38 + 5 * c) (by omega)
  have e5 := he (40 + 5 * c) (by omega)
  have e6 := he (41 + 5 * c) (by omega)
  have e7 := he (42 + 5 * c) (by omega)
  unfold wth nE
  rw [e1, e2, e3, e4, e5, e6, e7]
theorem q3_R {c x y v : Nat} (he : q3 E T) : q3 (upR E c x y v) (upR T c x y v) := fun j hj => by
  unfold upR upE
  rw [he j hj]
theorem q3_sel {c t : Nat} (he : q3 E T) : q3 (sel E c t) (sel T c t) := fun j hj => by
  have e1 := he (8 + 5 * t) (by omega)
  have e2 := he (10 + 5 * t) (by omega)
  have e5 := he (40 + 5 * c) (by omega)
  have e6 := he (41 + 5 * c) (by omega)
  unfold sel
  rw [upE_o _ hj, upE_o _ hj]
  unfold selR
  rw [e1, e2, e5, e6]
  have eh : q3 (upE E (39 + 5 * c) t) (upE T (39 + 5 * c) t) := fun j hj => by unfold upE; rw [he j hj]
  by_cases c1 : E (8 + 5 * t) = 2
  · rw [if_pos c1, if_pos c1]; exact q3_R eh j hj
  · by_cases c2 : E (8 + 5 * t) = 5
    · rw [if_neg c1, if_neg c1, if_pos c2, if_pos c2]; exact q3_R eh j hj
    · rw [if_neg c1, if_neg c1, if_neg c2, if_neg c2]; exact q3_R eh j hj
theorem q3_al {c v n s : Nat} : ∀ r p (E T : Nat → Nat), q3 E T → (alS K0 c v n s r p T).1 = (alS K0 c v n s r p E).1 ∧ q3 (alS K0 c v n s r p E).2 (alS K0 c v n s r p T).2 := by
  intro r
  induction r with
  | zero => intro p E T he; exact ⟨rfl, he⟩
  | succ r ih =>
    intro p E T he
    unfold alS
    rw [he (39 + 5 * c) (by omega), wth_cg he, he (11 + 5 * dg v n (s - 1 - p)) (by omega)]
    by_cases c1 : E (39 + 5 * c) = dg v n (s - 1 - p)
    · rw [if_pos c1, if_pos c1]; exact ⟨rfl, he⟩
    · rw [if_neg c1, if_neg c1]
      by_cases c2 : wth E K0 c (dg v n (s - 1 - p)) < nI (E (11 + 5 * dg v n (s - 1 - p)))
      · rw [if_pos c2, if_pos c2]; exact ⟨rfl, he⟩
      · rw [if_neg c2, if_neg c2]
        exact ih (p + 1) _ _ (q3_sel he)
theorem WE_q3 (hw : WE E) (he : q3 E T) (h3 : T 3 ≤ 9999) : WE T := by
  obtain ⟨a0, a1, a2, a3, a4, a5, a6, a7⟩ := hw
  have e0 := he 0 (by omega)
  have e1 := he 1 (by omega)
  refine ⟨by rw [e0]; exact a0, by rw [e1]; exact a1, by rw [he 2 (by omega)]; exact a2, h3, by rw [he 4 (by omega)]; exact a4, by rw [he 4 (by omega)]; exact a5, fun t ht => ?_, fun c hc => ?_⟩
  · rw [e0] at ht
    have := a6 t ht
    unfold Tv at this ⊢
    rw [he (8 + 5 * t) (by omega), he (9 + 5 * t) (by omega), he (10 + 5 * t) (by omega), he (11 + 5 * t) (by omega), he (12 + 5 * t) (by omega)]
    exact this
  · rw [e1] at hc
    have := a7 c hc
    unfold Cv at this ⊢
    rw [e0, he (38 + 5 * c) (by omega), he (39 + 5 * c) (by omega), he (40 + 5 * c) (by omega), he (41 + 5 * c) (by omega), he (42 + 5 * c) (by omega)]
    exact this
/-- the coin where it was -/
def bck (E T : Nat → Nat) (c : Nat) : Nat → Nat := upR (upE T (39 + 5 * c) (E (39 + 5 * c))) c (E (40 + 5 * c)) (E (41 + 5 * c)) (E (42 + 5 * c))
/-- alike but for the sales and a coin's holder and row -/
def q4 (E T : Nat → Nat) (c : Nat) : Prop := (∀ j, j ≠ 3 → j < 39 + 5 * c ∨ 42 + 5 * c < j → T j = E j) ∧ T 3 ≤ 9999
theorem q4_r (hw : WE E) (c : Nat) : q4 E E c := ⟨fun _ _ _ => rfl, hw.2.2.2.1⟩
theorem bck_q3 {c : Nat} (he : q4 E T c) : q3 E (bck E T c) := fun j hj => by
  unfold bck upR upE
  by_cases e1 : j = 42 + 5 * c
  · rw [if_pos e1, e1]
  · by_cases e2 : j = 41 + 5 * c
    · rw [if_neg e1, if_pos e2, e2]
    · by_cases e3 : j = 40 + 5 * c
      · rw [if_neg e1, if_neg e2, if_pos e3, e3]
      · by_cases e4 : j = 39 + 5 * c
        · rw [if_neg e1, if_neg e2, if_neg e3, if_pos e4, e4]
        · rw [if_neg e1, if_neg e2, if_neg e3, if_neg e4]
          exact he.1 j hj (by omega)
theorem bck_3 {c : Nat} : bck E T c 3 = T 3 := by
  unfold bck upR
  rw [upE_o _ (by omega), upE_o _ (by omega), upE_o _ (by omega), upE_o _ (by omega)]
theorem sel_3 {c t : Nat} : sel E c t 3 ≤ 9999 := by
  unfold sel; rw [upE_s]; split <;> omega
theorem al_q4 {c v n s : Nat} : ∀ r p (T : Nat → Nat), q4 E T c → q4 E (alS K0 c v n s r p T).2 c := by
  intro r
  induction r with
  | zero => intro p T he; exact he
  | succ r ih =>
    intro p T he
    unfold alS
    split
    · exact he
    · split
      · exact he
      · exact ih _ _ ⟨fun j hj h2 => by rw [sel_o h2 hj]; exact he.1 j hj h2, sel_3⟩
theorem al_WE {c v n s : Nat} (hn : 0 < n) : ∀ r p (T : Nat → Nat), WE T → c < T 1 → n = T 0 → WE (alS K0 c v n s r p T).2 ∧ (alS K0 c v n s r p T).2 1 = T 1 := by
  intro r
  induction r with
  | zero => intro p T hw _ _; exact ⟨hw, rfl⟩
  | succ r ih =>
    intro p T hw hc h0
    have tl : dg v n (s - 1 - p) < n := Nat.mod_lt _ hn
    unfold alS
    split
    · exact ⟨hw, rfl⟩
    · split
      · exact ⟨hw, rfl⟩
      · obtain ⟨a, b⟩ := ih (p + 1) (sel T c (dg v n (s - 1 - p))) (WE_sel hw (by omega) hc) (by rw [sel_o (by omega) (by omega)]; exact hc) (by rw [sel_o (by omega) (by omega)]; exact h0)
        exact ⟨a, by rw [b, sel_o (by omega) (by omega)]⟩
theorem q3_q4 {c : Nat} (he : q3 E T) (h3 : T 3 ≤ 9999) : q4 E T c := ⟨fun j hj _ => he j hj, h3⟩
def ldW (E : Nat → Nat) (K : List Int32) (c rv n s : Nat) : Nat → Nat → Option Nat
  | 0, _ => none
  | r + 1, v => if (alS K c v n s s 0 E).1 = true ∧ rE (alS K c v n s s 0 E).2 c = rv then some v else ldW E K c rv n s r (v + 1)
def ldN (E : Nat → Nat) (K : List Int32) (c rv n : Nat) : Nat → Nat → Option (Nat × Nat)
  | 0, _ => none
  | r + 1, s => match ldW E K c rv n s (n ^ s) 0 with
    | some v => some (s, v)
    | none => ldN E K c rv n r (s + 1)
/-- nothing but a thought is written -/
def tg (w : Nat) (M M' : Nat → Nat → Int32) : Prop := ∀ x, x < w ∨ w + 28 ≤ x → M' x = M x
theorem tg_t {M1 M2 M3 : Nat → Nat → Int32} (h1 : tg w M1 M2) (h2 : tg w M2 M3) : tg w M1 M3 := fun x hx => by rw [h2 x hx, h1 x hx]
theorem tg_mg {M' : Nat → Nat → Int32} (h1 : mg (w + 1) M M') : tg w M M' := fun x hx => h1 x (by omega)
theorem tg_w {k : Nat} {v : Int32} : tg w M (j_up M w k v) := fun x hx => up_r _ _ _ _ (by omega)
theorem tg_5 {x y v x1 x2 : Int32} {c : Nat} : tg w M (j_up (j_up (j_up (j_up (j_up M w 2 x) w 3 y) w 4 v) (w + 1 + 14) c x1) (w + 1 + 16) c x2) := fun x hx => by
  rw [up_r _ _ _ _ (by omega), up_r _ _ _ _ (by omega), up_r _ _ _ _ (by omega), up_r _ _ _ _ (by omega), up_r _ _ _ _ (by omega)]
theorem CM_w {k : Nat} {v : Int32} (hm : CM M (w + 1) E z K0 K1) : CM (j_up M w k v) (w + 1) E z K0 K1 := CM_cg (fun x h1 h2 h3 h4 => up_r _ _ _ _ (by omega)) hm
theorem Mk_6 (hk : Mk h b) : hR h b 6 = b + 13 ∧ Nb h (b + 13) (b + 14) 8 := hk.2.2.2.2.2.2.2.1
theorem Mk_7 (hk : Mk h b) : hR h b 7 = b + 15 ∧ Nb h (b + 15) (b + 16) 8 := hk.2.2.2.2.2.2.2.2.1
theorem c62m (hmT : CM M (w + 1) T z K0 K1) (hw : WE E) {c v n s : Nat} (hc : c < E 1) (hq : q4 E T c) : CM (j_up (j_up (j_up (j_up (j_up M w 2 (nI v)) w 3 (nI n)) w 4 (nI s)) (w + 1 + 14) c (nI (E (39 + 5 * c)))) (w + 1 + 16) c (nI (rE E c))) (w + 1) (bck E T c) z K0 K1 := by
  have h8 := hw.2.1
  have h6 := hw.1
  have cv := hw.2.2.2.2.2.2.2 c hc
  have rl := rn_lt cv.2.2.2
  have T0 : T 0 ≤ 6 := by rw [hq.1 0 (by omega) (by omega)]; exact h6
  have T1 : T 1 ≤ 8 := by rw [hq.1 1 (by omega) (by omega)]; exact h8
  refine CM_R (CM_H (CM_w (CM_w (CM_w hmT))) T0 T1 (by omega) _) ?_ ?_ (by omega) rl
  · rw [upE_o _ (by omega)]; exact T0
  · rw [upE_o _ (by omega)]; exact T1
theorem c62a (ht : Th h w) (hk : Mk h b) (hdis : b + 27 ≤ w) (hw : WE E) {c rv n s v P : Nat} (hc : c < E 1) (hn : n = E 0) (hs : s ≤ 3) (hv : v < 1000) (hP : P < 1000) (hvP : v < P) (hm : CM M b E z K0 K1) (hm2 : CM M (w + 1) T z K0 K1) (hq : q4 E T c) : ∃ M1 T1, j_X (d + 6) 62 31 [some (.ref w), some (.ref b), some (.int (nI c)), some (.int (nI rv)), some (.int (nI s)), some (.int (nI P)), some (.int (nI v))] [] (FS h M) = j_X (d + 6) 62 93 [some (.ref w), some (.ref b), some (.int (nI c)), some (.int (nI rv)), some (.int (nI s)), some (.int (nI P)), some (.int (nI v))] [.int (if (alS K0 c v n s s 0 E).1 = true then nI 1 else nI 0)] (FS h M1) ∧ CM M1 (w + 1) T1 z K0 K1 ∧ q4 E T1 c ∧ rE T1 c = rE (alS K0 c v n s s 0 E).2 c ∧ FdT M1 w v n s ∧ tg w M M1 := by
  have t0 := ht.1
  have t1 := ht.2.1
  have t2 := ht.2.2.1
  have h8 := hw.2.1
  have h6 := hw.1
  have m0 := hk.1
  have m2 := t2.1
  have cv := hw.2.2.2.2.2.2.2 c hc
  have ch := cv.2.2.1
  have n0 : 0 < n := by omega
  have x6 := (Mk_6 hk).1
  have y6 := (Mk_6 hk).2
  have x7 := (Mk_7 hk).1
  have y7 := (Mk_7 hk).2
  have u6 := (Mk_6 t2).1
  have v6 := (Mk_6 t2).2
  have u7 := (Mk_7 t2).1
  have v7 := (Mk_7 t2).2
  have g6 := c6 (d := d + 4) (M := M) hk
  rw [hm.1.1, ← hn] at g6
  have gh := n33i (d := d + 5) (M := j_up (j_up (j_up M w 2 (nI v)) w 3 (nI n)) w 4 (nI s)) y6 (by omega : c < 8)
  rw [up_o _ _ _ _ _ (by omega), up_o _ _ _ _ _ (by omega), up_o _ _ _ _ _ (by omega), (hm.2.2.1 c hc).2.1] at gh
  have gr := n33i (d := d + 5) (M := j_up (j_up (j_up (j_up M w 2 (nI v)) w 3 (nI n)) w 4 (nI s)) (w + 1 + 14) c (nI (E (39 + 5 * c)))) y7 (by omega : c < 8)
  rw [up_o _ _ _ _ _ (by omega), up_o _ _ _ _ _ (by omega), up_o _ _ _ _ _ (by omega), up_o _ _ _ _ _ (by omega), (hm.2.2.1 c hc).2.2] at gr
  have sh := fun M => n34 (d := d + 5) (M := M) v6 (by omega : c < 8) (nI (E (39 + 5 * c)))
  have sr := fun M => n34 (d := d + 5) (M := M) v7 (by omega : c < 8) (nI (rE E c))
  have hmB := c62m (v := v) (n := n) (s := s) hm2 hw hc hq
  have hB := bck_q3 hq
  have hB3 : bck E T c 3 ≤ 9999 := by rw [bck_3]; exact hq.2
  have hwB := WE_q3 hw hB hB3
  have fB : FdT (j_up (j_up (j_up (j_up (j_up M w 2 (nI v)) w 3 (nI n)) w 4 (nI s)) (w + 1 + 14) c (nI (E (39 + 5 * c)))) (w + 1 + 16) c (nI (rE E c))) w v n s := FdT_cg (FdT_cg (FdT_up v n s) (up_r _ _ _ _ (by omega))) (up_r _ _ _ _ (by omega))
  obtain ⟨M1, p1, p2, p3⟩ := c63 (d := d) ht n0 (by omega) (by omega) (by omega) hmB hwB (by rw [hB 1 (by omega)]; exact hc) (by rw [hB 0 (by omega)]; exact hn) fB
  obtain ⟨qa, qb⟩ := q3_al (K0 := K0) (c := c) (v := v) (n := n) (s := s) s 0 _ _ hB
  rw [qa] at p1
  have q4B := al_q4 (K0 := K0) (v := v) (n := n) (s := s) s 0 _ (q3_q4 (c := c) hB hB3)
  refine ⟨M1, _, ?_, p2, q4B, ?_, FdT_cg fB (p3 w (by omega)), tg_t tg_5 (tg_mg p3)⟩
  · rw [st_62_31]
    simp (disch := omega) only [st_62_33, st_62_35, st_62_38, st_62_39, st_62_41, st_62_42, st_62_45, st_62_47, st_62_50, st_62_51, st_62_54, st_62_57, st_62_58, st_62_59, st_62_62, st_62_63, st_62_66, st_62_69, st_62_70, st_62_73, st_62_76, st_62_77, st_62_78, st_62_81, st_62_82, st_62_85, st_62_88, st_62_89, st_62_90, ini_62, fs_cl, fs_len, fs_rf, fs_M, fs_put, fs_cpy, ↓reduceIte, rv_ref, true_or, or_true, true_and, and_true, nI_ltI, ix_nI, nI_clamp, ps_i, ps_n, Option.bind_some, sm_0, sm_1, sm_2, sm_3, sm_4, sto_0, sto_1, sto_2, sto_3, sto_4, sto_5, sto_6, sto_7, sto_8, sto_9, sto_10, sto_11, sto_12, sto_13, sto_14, nlo_n, nlo_i, nlo_r, nlo_0, nlo_l, and_self, or_self, Nat.reduceEqDiff, Nat.reduceLT, Nat.reduceLeDiff, Nat.one_ne_zero, Nat.zero_ne_one, t0, t1, m0, m2, x6, x7, u6, u7, y6.1, y7.1, v6.1, v7.1, hvP, g6, c64 ht, gh, sh, gr, sr, p1]
  · unfold rE; rw [qb (40 + 5 * c) (by omega), qb (41 + 5 * c) (by omega), qb (42 + 5 * c) (by omega)]
theorem c62w (ht : Th h w) (hk : Mk h b) (hdis : b + 27 ≤ w) (hw : WE E) {c rv n s P : Nat} (hc : c < E 1) (hn : n = E 0) (hrv : rv < 1000) (hs : s ≤ 3) (hP : P < 1000) : ∀ r v (T : Nat → Nat) (M : Nat → Nat → Int32), CM M b E z K0 K1 → CM M (w + 1) T z K0 K1 → q4 E T c → r + v = P → (∃ v', ldW E K0 c rv n s r v = some v' ∧ ∃ M', j_X (d + 6) 62 31 [some (.ref w), some (.ref b), some (.int (nI c)), some (.int (nI rv)), some (.int (nI s)), some (.int (nI P)), some (.int (nI v))] [] (FS h M) = some (some (.int (nI s)), FS h M') ∧ FdT M' w v' n s ∧ Sd M' (w + 1) ∧ tg w M M') ∨ (ldW E K0 c rv n s r v = none ∧ ∃ M' T', j_X (d + 6) 62 31 [some (.ref w), some (.ref b), some (.int (nI c)), some (.int (nI rv)), some (.int (nI s)), some (.int (nI P)), some (.int (nI v))] [] (FS h M) = j_X (d + 6) 62 11 [some (.ref w), some (.ref b), some (.int (nI c)), some (.int (nI rv)), some (.int (nI (s + 1))), some (.int (nI P)), some (.int (nI P))] [] (FS h M') ∧ CM M' (w + 1) T' z K0 K1 ∧ q4 E T' c ∧ tg w M M') := by
  have t0 := ht.1
  have t1 := ht.2.1
  have t2 := ht.2.2.1
  have m2 := t2.1
  have u7 := (Mk_7 t2).1
  have v7 := (Mk_7 t2).2
  have e10 : ¬ nI 1 = nI 0 := by decide +kernel
  intro r
  induction r with
  | zero =>
    intro v T M hm hm2 hq hr
    have e1 : ¬ v < P := by omega
    refine .inr ⟨rfl, M, T, ?_, hm2, hq, fun _ _ => rfl⟩
    have ev : v = P := by omega
    subst ev
    rw [st_62_31]
    simp (disch := omega) only [st_62_0, st_62_1, st_62_4, st_62_5, st_62_8, st_62_9, st_62_13, st_62_14, st_62_17, st_62_18, st_62_21, st_62_23, st_62_26, st_62_28, st_62_29, st_62_33, st_62_35, st_62_38, st_62_39, st_62_41, st_62_42, st_62_45, st_62_47, st_62_50, st_62_51, st_62_54, st_62_57, st_62_58, st_62_59, st_62_62, st_62_63, st_62_66, st_62_69, st_62_70, st_62_73, st_62_76, st_62_77, st_62_78, st_62_81, st_62_82, st_62_85, st_62_88, st_62_89, st_62_90, st_62_93, st_62_96, st_62_97, st_62_100, st_62_103, st_62_104, st_62_107, st_62_108, st_62_111, st_62_113, st_62_114, st_62_117, st_62_120, st_62_123, st_62_126, st_62_127, ini_62, fs_cl, fs_len, fs_rf, fs_M, fs_put, fs_cpy, ↓reduceIte, rv_ref, true_or, or_true, true_and, and_true, nI_ltI, ix_nI, nI_clamp, ps_i, ps_n, Option.bind_some, sm_0, sm_1, sm_2, sm_3, sm_4, sto_0, sto_1, sto_2, sto_3, sto_4, sto_5, sto_6, sto_7, sto_8, sto_9, sto_10, sto_11, sto_12, sto_13, sto_14, nlo_n, nlo_i, nlo_r, nlo_0, nlo_l, and_self, or_self, Nat.reduceEqDiff, Nat.reduceLT, Nat.reduceLeDiff, Nat.one_ne_zero, Nat.zero_ne_one, e1, nI_add]
  | succ r ih =>
    intro v T M hm hm2 hq hr
    obtain ⟨M1, T1, p1, p2, q4B, eR, fB, tgB⟩ := c62a (d := d) (z := z) (K0 := K0) (K1 := K1) (rv := rv) (P := P) (v := v) ht hk hdis hw hc hn hs (by omega) hP (by omega) hm hm2 hq
    have hmb : CM M1 b E z K0 K1 := CM_cg (fun x h1 h2 _ _ => tgB x (by omega)) hm
    have h8 := hw.2.1
    have gq := n33i (d := d + 5) (M := M1) v7 (by omega : c < 8)
    have c1q : c < T1 1 := by rw [q4B.1 1 (by omega) (by omega)]; exact hc
    rw [(p2.2.2.1 c c1q).2.2, eR] at gq
    have fin := ih (v + 1) _ M1 hmb p2 q4B (by omega)
    have ch := (hw.2.2.2.2.2.2.2 c hc).2.2.1
    obtain ⟨wa, wb⟩ := al_WE (K0 := K0) (c := c) (v := v) (s := s) (by omega : 0 < n) s 0 E hw hc hn
    have rl2 : rE (alS K0 c v n s s 0 E).2 c < 1000 := rn_lt (wa.2.2.2.2.2.2.2 c (by rw [wb]; exact hc)).2.2.2
    have fin2 : j_X (d + 6) 62 31 [some (.ref w), some (.ref b), some (.int (nI c)), some (.int (nI rv)), some (.int (nI s)), some (.int (nI P)), some (.int (nI v))] [] (FS h M) = j_X (d + 6) 62 31 [some (.ref w), some (.ref b), some (.int (nI c)), some (.int (nI rv)), some (.int (nI s)), some (.int (nI P)), some (.int (nI (v + 1)))] [] (FS h M1) → (∃ v', ldW E K0 c rv n s r (v + 1) = some v' ∧ ∃ M', j_X (d + 6) 62 31 [some (.ref w), some (.ref b), some (.int (nI c)), some (.int (nI rv)), some (.int (nI s)), some (.int (nI P)), some (.int (nI v))] [] (FS h M) = some (some (.int (nI s)), FS h M') ∧ FdT M' w v' n s ∧ Sd M' (w + 1) ∧ tg w M M') ∨ (ldW E K0 c rv n s r (v + 1) = none ∧ ∃ M' T', j_X (d + 6) 62 31 [some (.ref w), some (.ref b), some (.int (nI c)), some (.int (nI rv)), some (.int (nI s)), some (.int (nI P)), some (.int (nI v))] [] (FS h M) = j_X (d + 6) 62 11 [some (.ref w), some (.ref b), some (.int (nI c)), some (.int (nI rv)), some (.int (nI (s + 1))), some (.int (nI P)), some (.int (nI P))] [] (FS h M') ∧ CM M' (w + 1) T' z K0 K1 ∧ q4 E T' c ∧ tg w M M') := by
      intro hX
      rw [hX]
      rcases fin with ⟨v', f1, M', f2, f3, f4, f5⟩ | ⟨f1, M', T', f2, f3, f4, f5⟩
      · exact .inl ⟨v', f1, M', f2, f3, f4, tg_t tgB f5⟩
      · exact .inr ⟨f1, M', T', f2, f3, f4, tg_t tgB f5⟩
    unfold ldW
    by_cases ca : (alS K0 c v n s s 0 E).1 = true
    · rw [if_pos ca] at p1
      by_cases cb : rE (alS K0 c v n s s 0 E).2 c = rv
      · rw [if_pos ⟨ca, cb⟩]
        refine .inl ⟨v, rfl, M1, ?_, fB, p2.2.2.2.1, tgB⟩
        rw [cb] at gq
        rw [p1]
        simp (disch := omega) only [st_62_93, st_62_96, st_62_97, st_62_100, st_62_103, st_62_104, st_62_107, st_62_108, st_62_111, st_62_113, ini_62, fs_cl, fs_len, fs_rf, fs_M, fs_put, fs_cpy, ↓reduceIte, rv_ref, true_or, or_true, true_and, and_true, nI_ltI, ix_nI, nI_clamp, ps_i, ps_n, Option.bind_some, sm_0, sm_1, sm_2, sm_3, sm_4, sto_0, sto_1, sto_2, sto_3, sto_4, sto_5, sto_6, sto_7, sto_8, sto_9, sto_10, sto_11, sto_12, sto_13, sto_14, nlo_n, nlo_i, nlo_r, nlo_0, nlo_l, and_self, or_self, Nat.reduceEqDiff, Nat.reduceLT, Nat.reduceLeDiff, Nat.one_ne_zero, Nat.zero_ne_one, t0, t1, m2, u7, v7.1, gq, e10]
      · rw [if_neg (fun hh => cb hh.2)]
        have cb' : ¬ nI (rE (alS K0 c v n s s 0 E).2 c) = nI rv := nI_ne cb (by omega) (by omega)
        refine fin2 (p1.trans ?_)
        simp (disch := omega) only [st_62_93, st_62_96, st_62_97, st_62_100, st_62_103, st_62_104, st_62_107, st_62_108, st_62_111, st_62_113, st_62_114, st_62_117, ini_62, fs_cl, fs_len, fs_rf, fs_M, fs_put, fs_cpy, ↓reduceIte, rv_ref, true_or, or_true, true_and, and_true, nI_ltI, ix_nI, nI_clamp, ps_i, ps_n, Option.bind_some, sm_0, sm_1, sm_2, sm_3, sm_4, sto_0, sto_1, sto_2, sto_3, sto_4, sto_5, sto_6, sto_7, sto_8, sto_9, sto_10, sto_11, sto_12, sto_13, sto_14, nlo_n, nlo_i, nlo_r, nlo_0, nlo_l, and_self, or_self, Nat.reduceEqDiff, Nat.reduceLT, Nat.reduceLeDiff, Nat.one_ne_zero, Nat.zero_ne_one, t0, t1, m2, u7, v7.1, gq, e10, cb', nI_add]
    · rw [if_neg ca] at p1
      rw [if_neg (fun hh => ca hh.1)]
      refine fin2 (p1.trans ?_)
      simp (disch := omega) only [st_62_93, st_62_96, st_62_97, st_62_100, st_62_103, st_62_104, st_62_107, st_62_108, st_62_111, st_62_113, st_62_114, st_62_117, ini_62, fs_cl, fs_len, fs_rf, fs_M, fs_put, fs_cpy, ↓reduceIte, rv_ref, true_or, or_true, true_and, and_true, nI_ltI, ix_nI, nI_clamp, ps_i, ps_n, Option.bind_some, sm_0, sm_1, sm_2, sm_3, sm_4, sto_0, sto_1, sto_2, sto_3, sto_4, sto_5, sto_6, sto_7, sto_8, sto_9, sto_10, sto_11, sto_12, sto_13, sto_14, nlo_n, nlo_i, nlo_r, nlo_0, nlo_l, and_self, or_self, Nat.reduceEqDiff, Nat.reduceLT, Nat.reduceLeDiff, Nat.one_ne_zero, Nat.zero_ne_one, nI_add]
theorem ldW_lt {c rv n s : Nat} : ∀ r v v', ldW E K0 c rv n s r v = some v' → v' < r + v := by
  intro r
  induction r with
  | zero => intro v v' he; cases he
  | succ r ih =>
    intro v v' he
    unfold ldW at he
    split at he
    · cases he; omega
    · have := ih _ _ he; omega
theorem ldN_lt {c rv n : Nat} : ∀ r s s' v', ldN E K0 c rv n r s = some (s', v') → s' < r + s ∧ v' < n ^ s' := by
  intro r
  induction r with
  | zero => intro s s' v' he; cases he
  | succ r ih =>
    intro s s' v' he
    unfold ldN at he
    split at he
    · next v hv =>
      cases he
      have := ldW_lt _ _ _ hv
      exact ⟨by omega, by omega⟩
    · have := ih _ _ _ he
      exact ⟨by omega, this.2⟩
theorem c62n (ht : Th h w) (hk : Mk h b) (hdis : b + 27 ≤ w) (hw : WE E) {c rv n : Nat} (hc : c < E 1) (hn : n = E 0) (hrv : rv < 1000) : ∀ r s (T : Nat → Nat) (M : Nat → Nat → Int32) (o5 o6 : Option Value), CM M b E z K0 K1 → CM M (w + 1) T z K0 K1 → q4 E T c → r + s = 4 → ∃ M', j_X (d + 6) 62 11 [some (.ref w), some (.ref b), some (.int (nI c)), some (.int (nI rv)), some (.int (nI s)), o5, o6] [] (FS h M) = some (some (.int (match ldN E K0 c rv n r s with | some x => nI x.1 | none => -1)), FS h M') ∧ (∀ s' v', ldN E K0 c rv n r s = some (s', v') → FdT M' w v' n s') ∧ Sd M' (w + 1) ∧ tg w M M' := by
  intro r
  induction r with
  | zero =>
    intro s T M o5 o6 hm hm2 hq hr
    have e1 : 3 < s := by omega
    refine ⟨M, ?_, (fun s' v' he => by cases he), hm2.2.2.2.1, fun _ _ => rfl⟩
    rw [st_62_11]
    simp (disch := omega) only [st_62_0, st_62_1, st_62_4, st_62_5, st_62_8, st_62_9, st_62_13, st_62_14, st_62_17, st_62_18, st_62_21, st_62_23, st_62_26, st_62_28, st_62_29, st_62_33, st_62_35, st_62_38, st_62_39, st_62_41, st_62_42, st_62_45, st_62_47, st_62_50, st_62_51, st_62_54, st_62_57, st_62_58, st_62_59, st_62_62, st_62_63, st_62_66, st_62_69, st_62_70, st_62_73, st_62_76, st_62_77, st_62_78, st_62_81, st_62_82, st_62_85, st_62_88, st_62_89, st_62_90, st_62_93, st_62_96, st_62_97, st_62_100, st_62_103, st_62_104, st_62_107, st_62_108, st_62_111, st_62_113, st_62_114, st_62_117, st_62_120, st_62_123, st_62_126, st_62_127, ini_62, fs_cl, fs_len, fs_rf, fs_M, fs_put, fs_cpy, ↓reduceIte, rv_ref, true_or, or_true, true_and, and_true, nI_ltI, ix_nI, nI_clamp, ps_i, ps_n, Option.bind_some, sm_0, sm_1, sm_2, sm_3, sm_4, sto_0, sto_1, sto_2, sto_3, sto_4, sto_5, sto_6, sto_7, sto_8, sto_9, sto_10, sto_11, sto_12, sto_13, sto_14, nlo_n, nlo_i, nlo_r, nlo_0, nlo_l, and_self, or_self, Nat.reduceEqDiff, Nat.reduceLT, Nat.reduceLeDiff, Nat.one_ne_zero, Nat.zero_ne_one, e1]
    rfl
  | succ r ih =>
    intro s T M o5 o6 hm hm2 hq hr
    have e1 : ¬ 3 < s := by omega
    have h6 := hw.1
    have g6 := c6 (d := d + 4) (M := M) hk
    rw [hm.1.1, ← hn] at g6
    have m0 := hk.1
    have pw3 : n ^ s < 1000 := by
      have e1 := Nat.pow_le_pow_left (show n ≤ 6 by omega) s
      have e2 := Nat.pow_le_pow_right (show 0 < 6 by omega) (by omega : s ≤ 3)
      omega
    have g140 := c140 (σ := FS h M) (d := d + 5) (b := n) (t := s) (by omega)
    have hX : ∀ X, j_X (d + 6) 62 31 [some (.ref w), some (.ref b), some (.int (nI c)), some (.int (nI rv)), some (.int (nI s)), some (.int (nI (n ^ s))), some (.int (nI 0))] [] (FS h M) = X → j_X (d + 6) 62 11 [some (.ref w), some (.ref b), some (.int (nI c)), some (.int (nI rv)), some (.int (nI s)), o5, o6] [] (FS h M) = X := by
      intro X he
      rw [← he, st_62_11]
      simp (disch := omega) only [st_62_0, st_62_1, st_62_4, st_62_5, st_62_8, st_62_9, st_62_13, st_62_14, st_62_17, st_62_18, st_62_21, st_62_23, st_62_26, st_62_28, st_62_29, st_62_33, st_62_35, st_62_38, st_62_39, st_62_41, st_62_42, st_62_45, st_62_47, st_62_50, st_62_51, st_62_54, st_62_57, st_62_58, st_62_59, st_62_62, st_62_63, st_62_66, st_62_69, st_62_70, st_62_73, st_62_76, st_62_77, st_62_78, st_62_81, st_62_82, st_62_85, st_62_88, st_62_89, st_62_90, st_62_93, st_62_96, st_62_97, st_62_100, st_62_103, st_62_104, st_62_107, st_62_108, st_62_111, st_62_113, st_62_114, st_62_117, st_62_120, st_62_123, st_62_126, st_62_127, ini_62, fs_cl, fs_len, fs_rf, fs_M, fs_put, fs_cpy, ↓reduceIte, rv_ref, true_or, or_true, true_and, and_true, nI_ltI, ix_nI, nI_clamp, ps_i, ps_n, Option.bind_some, sm_0, sm_1, sm_2, sm_3, sm_4, sto_0, sto_1, sto_2, sto_3, sto_4, sto_5, sto_6, sto_7, sto_8, sto_9, sto_10, sto_11, sto_12, sto_13, sto_14, nlo_n, nlo_i, nlo_r, nlo_0, nlo_l, and_self, or_self, Nat.reduceEqDiff, Nat.reduceLT, Nat.reduceLeDiff, Nat.one_ne_zero, Nat.zero_ne_one, m0, e1, g6, g140]
    unfold ldN
    rcases c62w (d := d) (z := z) (K0 := K0) (K1 := K1) ht hk hdis hw hc hn hrv (by omega : s ≤ 3) pw3 (n ^ s) 0 T M hm hm2 hq (by omega) with ⟨v', f1, M', f2, f3, f4, f5⟩ | ⟨f1, M', T', f2, f3, f4, f5⟩
    · rw [f1]
      exact ⟨M', hX _ f2, (fun s' v'' he => by cases he; exact f3), f4, f5⟩
    · rw [f1]
      obtain ⟨M2, p1, p2, p3, p4⟩ := ih (s + 1) T' M' (some (.int (nI (n ^ s)))) (some (.int (nI (n ^ s)))) (CM_cg (fun x h1 h2 _ _ => f5 x (by omega)) hm) f3 f4 (by omega)
      exact ⟨M2, hX _ (f2.trans p1), p2, p3, tg_t f5 p4⟩
/-- LAUNDER -/
theorem c62 (ht : Th h w) (hk : Mk h b) (hdis : b + 27 ≤ w) (hst : Sd M (w + 1)) (hm : CM M b E z K0 K1) (hw : WE E) {c rv : Nat} (hc : c < E 1) (hrv : rv < 1000) : ∃ M', j_C (d + 7) 62 [.ref w, .ref b, .int (nI c), .int (nI rv)] (FS h M) = some (some (.int (match ldN E K0 c rv (E 0) 4 0 with | some x => nI x.1 | none => -1)), FS h M') ∧ (∀ s' v', ldN E K0 c rv (E 0) 4 0 = some (s', v') → FdT M' w v' (E 0) s') ∧ Sd M' (w + 1) ∧ tg w M M' := by
  obtain ⟨t0, t1, t2, t3, t4⟩ := id ht
  obtain ⟨M1, p1, p2, p3⟩ := c5 (d := d + 3) t2 hk (by omega) hst hm hw
  obtain ⟨M2, q1, q2, q3', q4'⟩ := c62n (d := d) (K0 := K0) (K1 := K1) (z := z) ht hk hdis hw hc rfl hrv 4 0 E M1 none none (CM_cg (fun x h1 h2 _ _ => p3 x (by omega)) hm) p2 (q4_r hw c) (by omega)
  refine ⟨M2, ?_, q2, q3', tg_t (tg_mg p3) q4'⟩
  rw [j_C_eq]
  simp only [st_62_0, st_62_1, st_62_4, st_62_5, st_62_8, st_62_9, st_62_13, st_62_14, st_62_17, st_62_18, st_62_21, st_62_23, st_62_26, st_62_28, st_62_29, st_62_33, st_62_35, st_62_38, st_62_39, st_62_41, st_62_42, st_62_45, st_62_47, st_62_50, st_62_51, st_62_54, st_62_57, st_62_58, st_62_59, st_62_62, st_62_63, st_62_66, st_62_69, st_62_70, st_62_73, st_62_76, st_62_77, st_62_78, st_62_81, st_62_82, st_62_85, st_62_88, st_62_89, st_62_90, st_62_93, st_62_96, st_62_97, st_62_100, st_62_103, st_62_104, st_62_107, st_62_108, st_62_111, st_62_113, st_62_114, st_62_117, st_62_120, st_62_123, st_62_126, st_62_127, ini_62, fs_cl, fs_len, fs_rf, fs_M, fs_put, fs_cpy, ↓reduceIte, rv_ref, true_or, or_true, true_and, and_true, nI_ltI, ix_nI, nI_clamp, ps_i, ps_n, Option.bind_some, sm_0, sm_1, sm_2, sm_3, sm_4, sto_0, sto_1, sto_2, sto_3, sto_4, sto_5, sto_6, sto_7, sto_8, sto_9, sto_10, sto_11, sto_12, sto_13, sto_14, nlo_n, nlo_i, nlo_r, nlo_0, nlo_l, and_self, or_self, Nat.reduceEqDiff, Nat.reduceLT, Nat.reduceLeDiff, Nat.one_ne_zero, Nat.zero_ne_one, t0, t1, t2.1, p1, q1]
