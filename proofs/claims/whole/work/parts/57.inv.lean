/-! Both sides together: what stands between two calls. -/
variable {h : j_Hd} {M M1 M2 : Nat → Nat → Int32} {E E' : Nat → Nat} {z z' : Int32} {K0 K1 L0 L1 : List Int32} {T T' : Nat → Nat} {W W' : Nat → Int32}
def Hd (h : j_Hd) : Prop := (hC h 1 = 7 ∧ hR h 1 0 = 2 ∧ hR h 1 1 = 29 ∧ hR h 1 2 = 31 ∧ hR h 1 3 = 33 ∧ hR h 1 4 = 60 ∧ hR h 1 5 = 62 ∧ hR h 1 7 = 64 ∧ hR h 1 8 = 94 ∧ hR h 1 9 = 97 ∧ hR h 1 10 = 100 ∧ hR h 1 11 = 113) ∧ (Mk h 2 ∧ Mk h 33) ∧ (Nb h 29 30 50 ∧ Nb h 31 32 20 ∧ Nb h 60 61 50 ∧ Nb h 62 63 20) ∧ (Th h 64 ∧ Rd h 94) ∧ (hC h 97 = 6 ∧ hR h 97 0 = 98 ∧ Nb h 98 99 40) ∧ (hC h 100 = 21 ∧ hN h 100 = 4 ∧ ∀ i, i < 4 → hR h 100 i = 101 + 3 * i ∧ hC h (101 + 3 * i) = 4 ∧ hR h (101 + 3 * i) 0 = 102 + 3 * i ∧ Nb h (102 + 3 * i) (103 + 3 * i) 40) ∧ Nb h 113 114 6 ∧ Md h 115 ∧ (hC h 1001 = 22 ∧ hN h 1001 = 7 ∧ hC h 1002 = 22 ∧ hN h 1002 = 28)
def CPi (M : Nat → Nat → Int32) (b tp wt : Nat) (E : Nat → Nat) (z : Int32) (K0 K1 : List Int32) (T : Nat → Nat) (W : Nat → Int32) : Prop := CM M b E z K0 K1 ∧ (M tp 1 = nI (E 6) ∧ ∀ i, i < E 6 → M (tp + 1) i = nI (T i) ∧ T i < 256) ∧ (M wt 1 = nI (E 7) ∧ ∀ i, i < E 7 → M (wt + 1) i = W i)
def RPi (A : Nat → Int32) (E : Nat → Nat) (z : Int32) (K0 K1 : List Int32) (T : Nat → Nat) (W : Nat → Int32) : Prop := RC (fun _ => A) 0 E z K0 K1 ∧ (∀ i, i < E 6 → A (200 + i) = nI (T i)) ∧ ∀ i, i < E 7 → A (80 + i) = W i
def WX (E : Nat → Nat) : Prop := WE E ∧ E 2 ≤ 9999 ∧ E 6 ≤ 50 ∧ E 7 ≤ 20
/-- the image -/
def PK (M : Nat → Nat → Int32) : Prop := M 115 2 = M 1 6 ∧ (M 1 6 = nI 0 ∨ ∃ E z K0 K1 T W, WX E ∧ CPi M 33 60 62 E z K0 K1 T W ∧ RPi (M 117) E z K0 K1 T W)
/-- the trace -/
def VP (M : Nat → Nat → Int32) : Prop := ∃ n, n ≤ 40 ∧ M 98 1 = nI n ∧ M 115 14 = nI n ∧ ∀ i, i < n → M 99 i = M 122 i
/-- a number of a sheet on both sides -/
def Sv (bs : Nat) (x y : Int32) : Prop := (bs = 32 → x = y) ∧ (bs = 8 → ∃ v : Int32, x = v &&& nI 255 ∧ y = v.toInt8.toInt32) ∧ (bs = 16 → ∃ v : Int32, x = v &&& nI 65535 ∧ y = v.toInt16.toInt32)
def SP (M : Nat → Nat → Int32) : Prop := ∀ s, s < 4 → ∃ bs n, (bs = 0 ∨ bs = 8 ∨ bs = 16 ∨ bs = 32) ∧ n ≤ 40 ∧ (bs = 0 → n = 0) ∧ M (101 + 3 * s) 1 = nI bs ∧ M 123 s = nI bs ∧ M (102 + 3 * s) 1 = nI n ∧ M 124 s = nI n ∧ ∀ i, i < n → Sv bs (M (103 + 3 * s) i) (M 125 (40 * s + i))
def abK (k : Nat) : Int32 := if k = 0 then -1 else if k < 4 then nI 0 else nI (k - 3)
def bdK (k : Nat) : Nat := if k = 0 then 10 else if k = 1 then 11 else if k = 2 then 12 else if k = 3 then 13 else if k = 4 then 20 else if k = 10 then 30 else if k = 13 then 40 else if k = 19 then 50 else if k = 22 then 60 else if k = 23 then 61 else if k = 25 then 70 else 0
def ST (M : Nat → Nat → Int32) : Prop := (∀ k, k < 7 → M 1001 k = abK k) ∧ ∀ k, k < 28 → M 1002 k = nI (bdK k)
def FLs (M : Nat → Nat → Int32) : Prop := ∀ k, 1 ≤ k → k < 6 → M 114 k = M 118 k
def R0 (M : Nat → Nat → Int32) : Prop := Sd M 33 ∧ PK M ∧ VP M ∧ SP M ∧ ST M
def IE (M : Nat → Nat → Int32) (E : Nat → Nat) (z : Int32) (K0 K1 : List Int32) (T : Nat → Nat) (W : Nat → Int32) : Prop := WX E ∧ CPi M 2 29 31 E z K0 K1 T W ∧ RPi (M 116) E z K0 K1 T W ∧ Sd M 65 ∧ FLs M ∧ R0 M
def INv (M : Nat → Nat → Int32) : Prop := ∃ E z K0 K1 T W, IE M E z K0 K1 T W
theorem CPi_cg {b tp wt : Nat} (h1 : ∀ x, b ≤ x → x < b + 25 → x ≠ b + 20 → x ≠ b + 21 → M1 x = M x) (h2 : M1 tp = M tp) (h3 : M1 (tp + 1) = M (tp + 1)) (h4 : M1 wt = M wt) (h5 : M1 (wt + 1) = M (wt + 1)) (hc : CPi M b tp wt E z K0 K1 T W) : CPi M1 b tp wt E z K0 K1 T W := by
  obtain ⟨a, b1, c⟩ := hc
  refine ⟨CM_cg h1 a, ?_, ?_⟩
  · rw [h2, h3]; exact b1
  · rw [h4, h5]; exact c
theorem Sd_cg {b : Nat} (h1 : M1 (b + 16) = M (b + 16)) (hs : Sd M b) : Sd M1 b := by
  unfold Sd at hs ⊢; rw [h1]; exact hs
theorem R0_cg (h1 : ∀ x, (33 ≤ x ∧ x < 64) ∨ x = 98 ∨ x = 99 ∨ (101 ≤ x ∧ x < 113) ∨ x = 117 ∨ (122 ≤ x ∧ x < 126) ∨ x = 1001 ∨ x = 1002 ∨ x = 1 → M1 x = M x) (h2 : M1 115 2 = M 115 2) (h3 : M1 115 14 = M 115 14) (hr : R0 M) : R0 M1 := by
  obtain ⟨a, b, c, d, e⟩ := hr
  refine ⟨Sd_cg (h1 49 (by omega)) a, ?_, ?_, ?_, ?_⟩
  · unfold PK at b ⊢
    rw [h2, h1 1 (by omega), h1 117 (by omega)]
    refine ⟨b.1, b.2.imp id ?_⟩
    intro ⟨E, z, K0, K1, T, W, w1, w2, w3⟩
    exact ⟨E, z, K0, K1, T, W, w1, CPi_cg (fun x p q _ _ => h1 x (by omega)) (h1 60 (by omega)) (h1 61 (by omega)) (h1 62 (by omega)) (h1 63 (by omega)) w2, w3⟩
  · unfold VP at c ⊢
    rw [h3, h1 98 (by omega), h1 99 (by omega), h1 122 (by omega)]; exact c
  · intro s hs
    rw [h1 (101 + 3 * s) (by omega), h1 (102 + 3 * s) (by omega), h1 (103 + 3 * s) (by omega), h1 123 (by omega), h1 124 (by omega), h1 125 (by omega)]
    exact d s hs
  · unfold ST at e ⊢
    rw [h1 1001 (by omega), h1 1002 (by omega)]; exact e
/-- the land of both sides is new -/
theorem ie_g (hi : IE M E z K0 K1 T W) (hcl : ∀ x, (33 ≤ x ∧ x < 64) ∨ (97 ≤ x ∧ x ≠ 114) ∨ x = 1 → M1 x = M x) (hs : Sd M1 65) (hrf : ∀ x, x < 115 ∨ x = 117 ∨ 122 ≤ x → M2 x = M1 x) (h2 : M2 115 2 = M1 115 2) (h14 : M2 115 14 = M1 115 14) (hf : FLs M2) (hw : WX E') (hc : CPi M1 2 29 31 E' z' L0 L1 T' W') (hr : RPi (M2 116) E' z' L0 L1 T' W') : IE M2 E' z' L0 L1 T' W' := by
  obtain ⟨a, b, c, d, e, f⟩ := hi
  refine ⟨hw, CPi_cg (fun x p q _ _ => hrf x (by omega)) (hrf 29 (by omega)) (hrf 30 (by omega)) (hrf 31 (by omega)) (hrf 32 (by omega)) hc, hr, Sd_cg (hrf 81 (by omega)) hs, hf, ?_⟩
  refine R0_cg (fun x hx => ?_) ?_ ?_ f
  · rw [hrf x (by omega), hcl x (by omega)]
  · rw [h2, hcl 115 (by omega)]
  · rw [h14, hcl 115 (by omega)]
/-- the class asks, and writes nothing that stays -/
def cq (M M1 : Nat → Nat → Int32) : Prop := ∀ x, x < 22 ∨ (24 ≤ x ∧ x < 27) ∨ (29 ≤ x ∧ x < 64) ∨ 97 ≤ x → M1 x = M x
theorem cq_r : cq M M := fun _ _ => rfl
theorem cq_t {M3 : Nat → Nat → Int32} (h1 : cq M M1) (h2 : cq M1 M3) : cq M M3 := fun x hx => by rw [h2 x hx, h1 x hx]
theorem cq_sg (hg : sg 2 M M1) : cq M M1 := fun x hx => hg x (by omega) (by omega) (by omega) (by omega)
theorem CPi_cq (hg : cq M M1) (hc : CPi M 2 29 31 E z K0 K1 T W) : CPi M1 2 29 31 E z K0 K1 T W := CPi_cg (fun x p q r s => hg x (by omega)) (hg 29 (by omega)) (hg 30 (by omega)) (hg 31 (by omega)) (hg 32 (by omega)) hc
/-- a failure on the class's side -/
def fc (k : Nat) (M : Nat → Nat → Int32) : Nat → Nat → Int32 := j_up M 114 k (M 114 k + nI 1)
theorem RC_of {A : Nat → Int32} {o : Nat} (hA : M (o + 1) = A) (hr : RPi A E z K0 K1 T W) : RC M o E z K0 K1 := by
  subst hA; exact hr.1
theorem RPi_rg {o : Nat} (hg : rg o M1 M2) (hR : RC M2 o E z K0 K1) (hr : RPi (M1 (o + 1)) E z K0 K1 T W) : RPi (M2 (o + 1)) E z K0 K1 T W :=
  ⟨hR, fun i hi => by rw [hg.2.2 (200 + i) (by omega)]; exact hr.2.1 i hi, fun i hi => by
    rw [hg.2.2 (80 + i) (by omega)]; exact hr.2.2 i hi⟩
theorem ie_q (hi : IE M E z K0 K1 T W) (hcl : cq M M1) (hs : Sd M1 65) (hg : rg 115 M1 M2) (hR : RC M2 115 E z K0 K1) : IE M2 E z K0 K1 T W := by
  have hi' := hi
  obtain ⟨a, b, c, d, e, f⟩ := hi'
  have c' : RPi (M1 116) E z K0 K1 T W := by rw [hcl 116 (by omega)]; exact c
  refine ie_g hi (fun x hx => hcl x (by omega)) hs (fun x hx => hg.1 x (by omega) (by omega) (by omega) (by omega) (by omega)) (hg.2.1 2 (by omega)) (hg.2.1 14 (by omega)) ?_ a (CPi_cq hcl b) (RPi_rg (o := 115) hg hR c')
  intro k h1 h2
  rw [hg.1 114 (by omega) (by omega) (by omega) (by omega) (by omega), hg.1 118 (by omega) (by omega) (by omega) (by omega) (by omega), hcl 114 (by omega), hcl 118 (by omega)]
  exact e k h1 h2
theorem ie_f (hi : IE M E z K0 K1 T W) (hcl : cq M M1) (hs : Sd M1 65) {k : Nat} (hg : rg 115 (fc k M1) M2) (hR : RC M2 115 E z K0 K1) : IE (fd 115 k M2) E z K0 K1 T W := by
  have hi' := hi
  obtain ⟨a, b, c, d, e, f⟩ := hi'
  have c1 : RPi (fc k M1 116) E z K0 K1 T W := by unfold fc; rw [up_r _ _ _ _ (by omega), hcl 116 (by omega)]; exact c
  have g118 := hg.1 118 (by omega) (by omega) (by omega) (by omega) (by omega)
  have g114 := hg.1 114 (by omega) (by omega) (by omega) (by omega) (by omega)
  have f118 : ∀ x, x ≠ 118 → fd 115 k M2 x = M2 x := fun x hx => by unfold fd; exact up_r _ _ _ _ hx
  have f114 : ∀ x, x ≠ 114 → fc k M1 x = M1 x := fun x hx => by unfold fc; exact up_r _ _ _ _ hx
  refine ie_g (M1 := fc k M1) hi (fun x hx => ?_) (Sd_cg (f114 81 (by omega)) hs) (fun x hx => ?_) ?_ ?_ ?_ a (CPi_cg (M := M1) (fun x p q r s => f114 x (by omega)) (f114 29 (by omega)) (f114 30 (by omega)) (f114 31 (by omega)) (f114 32 (by omega)) (CPi_cq hcl b)) ?_
  · rw [f114 x (by omega), hcl x (by omega)]
  · rw [f118 x (by omega), hg.1 x (by omega) (by omega) (by omega) (by omega) (by omega)]
  · rw [f118 115 (by omega), hg.2.1 2 (by omega)]
  · rw [f118 115 (by omega), hg.2.1 14 (by omega)]
  · intro j h1 h2
    rw [f118 114 (by omega), g114]
    have e' := e j h1 h2
    rw [← hcl 114 (by omega), ← hcl 118 (by omega)] at e'
    have m2 : M2 118 j = M1 118 j := by rw [g118]; rw [f114 118 (by omega)]
    unfold fd fc
    by_cases ej : j = k
    · subst ej
      show j_up M1 114 j (M1 114 j + nI 1) 114 j = j_up M2 118 j (M2 118 j + nI 1) 118 j
      rw [up_s, up_s, m2, e']
    · show j_up M1 114 k (M1 114 k + nI 1) 114 j = j_up M2 118 k (M2 118 k + nI 1) 118 j
      rw [up_k _ _ _ _ ej, up_k _ _ _ _ ej, m2, e']
  · have c2 := RPi_rg (o := 115) hg hR c1
    rw [f118 116 (by omega)]; exact c2
/-- one call on both sides, with one answer -/
def Go (h : j_Hd) (M : Nat → Nat → Int32) (cm rm : Nat) (args : List Value) : Prop := ∀ e, 100 ≤ e → ∃ v M1 M2, j_C e cm (.ref 1 :: args) (FS h M) = some (some (.int v), FS h M1) ∧ j_C e rm (.ref 115 :: args) (FS h M1) = some (some (.int v), FS h M2) ∧ M1 1003 = M 1003 ∧ INv M2
theorem c119 (hh : Hd h) {k : Nat} (h6 : k < 6) {e : Nat} (he : 2 ≤ e) : j_C e 119 [.ref 1, .int (nI k)] (FS h M) = some (some (.int (fl k)), FS h (fc k M)) := by
  obtain ⟨d, rfl⟩ := le_ex he
  have w0 := hh.1.1
  have w11 := hh.1.2.2.2.2.2.2.2.2.2.2.2
  have nb := hh.2.2.2.2.2.2.1
  have g := n33i (d := d) (M := M) nb h6
  have g2 := n34 (d := d) (M := M) nb h6 (M 114 k + nI 1)
  rw [j_C_eq]
  simp (disch := omega) only [st_119_0, st_119_1, st_119_4, st_119_5, st_119_6, st_119_9, st_119_10, st_119_13, st_119_14, st_119_15, st_119_18, st_119_21, st_119_22, st_119_23, ini_119, fs_cl, fs_len, fs_rf, fs_M, fs_put, fs_cpy, ↓reduceIte, rv_ref, true_or, or_true, true_and, and_true, nI_ltI, ix_nI, nI_clamp, ps_i, ps_n, Option.bind_some, sm_0, sm_1, sm_2, sm_3, sm_4, sto_0, sto_1, sto_2, sto_3, sto_4, sto_5, sto_6, sto_7, sto_8, sto_9, sto_10, sto_11, sto_12, sto_13, sto_14, nlo_n, nlo_i, nlo_r, nlo_0, nlo_l, and_self, or_self, Nat.reduceEqDiff, Nat.reduceLT, Nat.reduceLeDiff, Nat.one_ne_zero, Nat.zero_ne_one, w0, w11, nb.1, g, g2, fl, fc]
