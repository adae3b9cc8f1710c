/-! The beginning. -/
theorem nn_1_43 : ∀ m, j_m 0 = some m → Cond.methodLinkNest (j_on 1) 43 (j_y m) "WhiffCoins" ∈ lw_tbl := by
  intro m hm
  have e : m = jm_0 := (Option.some.inj ((rfl : some jm_0 = j_m 0).trans hm)).symm
  subst e
  exact List.mem_of_getElem? (i := 108) (by decide +kernel)
theorem nn_1_93 : ∀ m, j_m 133 = some m → Cond.methodLinkNest (j_on 1) 93 (j_y m) "WhiffCoins" ∈ lw_tbl := by
  intro m hm
  have e : m = jm_133 := (Option.some.inj ((rfl : some jm_133 = j_m 133).trans hm)).symm
  subst e
  exact List.mem_of_getElem? (i := 645) (by decide +kernel)
theorem nn_1_117 : ∀ m, j_m 138 = some m → Cond.methodLinkNest (j_on 1) 117 (j_y m) "WhiffCoins" ∈ lw_tbl := by
  intro m hm
  have e : m = jm_138 := (Option.some.inj ((rfl : some jm_138 = j_m 138).trans hm)).symm
  subst e
  exact List.mem_of_getElem? (i := 638) (by decide +kernel)
theorem nn_1_134 : ∀ m, j_m 136 = some m → Cond.methodLinkNest (j_on 1) 134 (j_y m) "WhiffCoins" ∈ lw_tbl := by
  intro m hm
  have e : m = jm_136 := (Option.some.inj ((rfl : some jm_136 = j_m 136).trans hm)).symm
  subst e
  exact List.mem_of_getElem? (i := 660) (by decide +kernel)
theorem nn_1_143 : ∀ m, j_m 134 = some m → Cond.methodLinkNest (j_on 1) 143 (j_y m) "WhiffCoins" ∈ lw_tbl := by
  intro m hm
  have e : m = jm_134 := (Option.some.inj ((rfl : some jm_134 = j_m 134).trans hm)).symm
  subst e
  exact List.mem_of_getElem? (i := 682) (by decide +kernel)
theorem nn_1_146 : ∀ m, j_m 137 = some m → Cond.methodLinkNest (j_on 1) 146 (j_y m) "WhiffCoins" ∈ lw_tbl := by
  intro m hm
  have e : m = jm_137 := (Option.some.inj ((rfl : some jm_137 = j_m 137).trans hm)).symm
  subst e
  exact List.mem_of_getElem? (i := 685) (by decide +kernel)
theorem nn_5_11 : ∀ m, j_m 4 = some m → Cond.methodLinkNest (j_on 5) 11 (j_y m) "WhiffCoins" ∈ lw_tbl := by
  intro m hm
  have e : m = jm_4 := (Option.some.inj ((rfl : some jm_4 = j_m 4).trans hm)).symm
  subst e
  exact List.mem_of_getElem? (i := 190) (by decide +kernel)
theorem nn_5_86 : ∀ m, j_m 140 = some m → Cond.methodLinkNest (j_on 5) 86 (j_y m) "WhiffCoins" ∈ lw_tbl := by
  intro m hm
  have e : m = jm_140 := (Option.some.inj ((rfl : some jm_140 = j_m 140).trans hm)).symm
  subst e
  exact List.mem_of_getElem? (i := 766) (by decide +kernel)
theorem nn_5_112 : ∀ m, j_m 139 = some m → Cond.methodLinkNest (j_on 5) 112 (j_y m) "WhiffCoins" ∈ lw_tbl := by
  intro m hm
  have e : m = jm_139 := (Option.some.inj ((rfl : some jm_139 = j_m 139).trans hm)).symm
  subst e
  exact List.mem_of_getElem? (i := 780) (by decide +kernel)
theorem nn_5_116 : ∀ m, j_m 133 = some m → Cond.methodLinkNest (j_on 5) 116 (j_y m) "WhiffCoins" ∈ lw_tbl := by
  intro m hm
  have e : m = jm_133 := (Option.some.inj ((rfl : some jm_133 = j_m 133).trans hm)).symm
  subst e
  exact List.mem_of_getElem? (i := 791) (by decide +kernel)
theorem nn_6_44 : ∀ m, j_m 130 = some m → Cond.methodLinkNest (j_on 6) 44 (j_y m) "WhiffCoins" ∈ lw_tbl := by
  intro m hm
  have e : m = jm_130 := (Option.some.inj ((rfl : some jm_130 = j_m 130).trans hm)).symm
  subst e
  exact List.mem_of_getElem? (i := 885) (by decide +kernel)
theorem nn_7_9 : ∀ m, j_m 4 = some m → Cond.methodLinkNest (j_on 7) 9 (j_y m) "WhiffCoins" ∈ lw_tbl := by
  intro m hm
  have e : m = jm_4 := (Option.some.inj ((rfl : some jm_4 = j_m 4).trans hm)).symm
  subst e
  exact List.mem_of_getElem? (i := 85) (by decide +kernel)
theorem nn_7_43 : ∀ m, j_m 58 = some m → Cond.methodLinkNest (j_on 7) 43 (j_y m) "WhiffCoins" ∈ lw_tbl := by
  intro m hm
  have e : m = jm_58 := (Option.some.inj ((rfl : some jm_58 = j_m 58).trans hm)).symm
  subst e
  exact List.mem_of_getElem? (i := 185) (by decide +kernel)
theorem nn_7_50 : ∀ m, j_m 43 = some m → Cond.methodLinkNest (j_on 7) 50 (j_y m) "WhiffCoins" ∈ lw_tbl := by
  intro m hm
  have e : m = jm_43 := (Option.some.inj ((rfl : some jm_43 = j_m 43).trans hm)).symm
  subst e
  exact List.mem_of_getElem? (i := 211) (by decide +kernel)
theorem nn_7_57 : ∀ m, j_m 73 = some m → Cond.methodLinkNest (j_on 7) 57 (j_y m) "WhiffCoins" ∈ lw_tbl := by
  intro m hm
  have e : m = jm_73 := (Option.some.inj ((rfl : some jm_73 = j_m 73).trans hm)).symm
  subst e
  exact List.mem_of_getElem? (i := 233) (by decide +kernel)
theorem nn_7_64 : ∀ m, j_m 54 = some m → Cond.methodLinkNest (j_on 7) 64 (j_y m) "WhiffCoins" ∈ lw_tbl := by
  intro m hm
  have e : m = jm_54 := (Option.some.inj ((rfl : some jm_54 = j_m 54).trans hm)).symm
  subst e
  exact List.mem_of_getElem? (i := 256) (by decide +kernel)
theorem st_X {args : Array Value} {s : State} {t : Term} {N : Nat} {f : Nat → Int32} (hN : N < 2 ^ 31) (harr : (Cond.arrayOf t .int).before args s = true) (hlen : (Term.length t).eval args s none [] s = some (.int (Int32.ofNat N))) (hel : ∀ j : Nat, j < N → (Term.elem t (.int (Int32.ofNat j))).eval args s none [] s = some (.int (f j))) : ∃ b : Nat, t.eval args s none [] s = some (.ref b) ∧ b < s.heap.size ∧ va_X b N f s s.heap := by
  obtain ⟨b, cell, ht, hat, hv⟩ := Term.length_spec hlen
  have hsz : cell.slots.size < 2 ^ 31 := by
    have hl := hlen
    simp only [Term.eval, ht, hat, Option.bind_eq_bind, Option.bind_some] at hl
    by_cases hlt : cell.slots.size < 2147483648
    · exact hlt
    · simp [hlt] at hl
  obtain ⟨b2, ht2, c2, g1, g2, g3, g4, g5, g6, -⟩ := va_Tof (f := fun j => .int (f j)) (A := fun _ => False) hN harr hlen hel (fun _ _ h => h)
  cases ht.symm.trans ht2
  obtain ⟨hcell, -, -, -⟩ := State.arrayAt?_spec hat
  cases hcell.symm.trans g1
  refine ⟨b, ht, (Array.getElem?_eq_some_iff.mp g1).1, cell, g1, g2, g3, ?_, g6⟩
  exact (nI_eq hsz hN).mp g5
theorem nest_ok : ∀ q ∈ j_nest, ∀ m, j_m q.2.2 = some m → Cond.methodLinkNest (j_on q.1) q.2.1 (j_y m) "WhiffCoins" ∈ lw_tbl := List.forall_mem_cons.mpr ⟨nn_1_43, List.forall_mem_cons.mpr ⟨nn_1_93, List.forall_mem_cons.mpr ⟨nn_1_117, List.forall_mem_cons.mpr ⟨nn_1_134, List.forall_mem_cons.mpr ⟨nn_1_143, List.forall_mem_cons.mpr ⟨nn_1_146, List.forall_mem_cons.mpr ⟨nn_5_11, List.forall_mem_cons.mpr ⟨nn_5_86, List.forall_mem_cons.mpr ⟨nn_5_112, List.forall_mem_cons.mpr ⟨nn_5_116, List.forall_mem_cons.mpr ⟨nn_6_44, List.forall_mem_cons.mpr ⟨nn_7_9, List.forall_mem_cons.mpr ⟨nn_7_43, List.forall_mem_cons.mpr ⟨nn_7_50, List.forall_mem_cons.mpr ⟨nn_7_57, List.forall_mem_cons.mpr ⟨nn_7_64, fun _ h => absurd h List.not_mem_nil⟩⟩⟩⟩⟩⟩⟩⟩⟩⟩⟩⟩⟩⟩⟩⟩
theorem vwCl_9 : vwCl.length = 9 := by decide +kernel

def st_G (dC : Nat → ClassId) (dI : Nat → Nat → Nat) (cA cS : ClassId) (H : Heap) (b b1 b2 : Nat) (aK aV : Nat → Nat) : j_G := ((dC, dI), cA, cS, H, fun id => if id = 1001 then b1 else if id = 1002 then b2 else if id = 1003 then b else if id < 1020 then aK (id - 1010) else aV (id - 1020))
theorem st_S {aK aV : Nat → Nat} {N : Nat} {len : List Nat} {byt : List (List Int32)} {A B : Nat → Prop} {U : State} {H : Heap} {f g : Nat → Nat} (hf : ∀ i, i < N → f i = aK i) (hg : ∀ i, i < N → g i = aV i) (hAB : ∀ q, B q → A q) (h : vk_S N len byt aK aV A U H) : vk_S N len byt f g B U H := by
  have h' := h.narrow hAB
  refine ⟨fun i hi => ?_, fun i j hi hj e => ?_⟩
  · rw [hf i hi, hg i hi]; exact h'.1 i hi
  · rw [hf i hi, hf j hj] at e; exact h'.2 i j hi hj e
def st_tA : Term := .static "WhiffCoins" "ABOVE" "[I"
def st_tB : Term := .static "WhiffCoins$Voices" "BODIES" "[I"
def st_tS (i : Nat) : Term := if i = 0 then .string RX3 73 else .string RX3 75
def st_by : List (List Int32) := [[118, 108, 100], [118, 107, 116]]
theorem st_f1 : ∀ j, j < 7 → Cond.eq (.elem st_tA (.int (Int32.ofNat j))) (.int (abK j)) ∈ flatC (Jvm.Cond.and given_1 narrow_1) := by decide +kernel
theorem st_f2 : ∀ j, j < 28 → Cond.eq (.elem st_tB (.int (Int32.ofNat j))) (.int (nI (bdK j))) ∈ flatC (Jvm.Cond.and given_1 narrow_1) := by decide +kernel
theorem st_f3 : ∀ i, i < 2 → Cond.exactly (st_tS i) "java/lang/String" ∈ flatC (Jvm.Cond.and given_1 narrow_1) ∧ Cond.eq (.field (st_tS i) "java/lang/String" "coder" "B") (.int 0) ∈ flatC (Jvm.Cond.and given_1 narrow_1) ∧ Cond.arrayOf (.field (st_tS i) "java/lang/String" "value" "[B") .byte ∈ flatC (Jvm.Cond.and given_1 narrow_1) ∧ Cond.eq (.length (.field (st_tS i) "java/lang/String" "value" "[B")) (.int (Int32.ofNat ([3, 3].getD i 0))) ∈ flatC (Jvm.Cond.and given_1 narrow_1) := by decide +kernel
theorem st_f4 : ∀ i, i < 2 → ∀ j, j < 3 → Cond.eq (.elem (.field (st_tS i) "java/lang/String" "value" "[B") (.int (Int32.ofNat j))) (.int ((st_by.getD i []).getD j 0)) ∈ flatC (Jvm.Cond.and given_1 narrow_1) := by decide +kernel
theorem st_f5 : Cond.not (Cond.eq (st_tS 0) (st_tS 1)) ∈ flatC (Jvm.Cond.and given_1 narrow_1) ∧ Cond.arrayOf st_tA .int ∈ flatC (Jvm.Cond.and given_1 narrow_1) ∧ Cond.arrayOf st_tB .int ∈ flatC (Jvm.Cond.and given_1 narrow_1) ∧ Cond.eq (.length st_tA) (.int (Int32.ofNat 7)) ∈ flatC (Jvm.Cond.and given_1 narrow_1) ∧ Cond.eq (.length st_tB) (.int (Int32.ofNat 28)) ∈ flatC (Jvm.Cond.and given_1 narrow_1) ∧ Cond.eq (.static "java/lang/String" "COMPACT_STRINGS" "Z") (.int 1) ∈ flatC (Jvm.Cond.and given_1 narrow_1) := by decide +kernel
/-- what stands before the law: J's picture of it -/
theorem st_all {s : State} {b L : Nat} {xs : Nat → Int32} (hts : ∀ w ∈ lw_tbl, w.before #[Value.ref b] s = true) (hX : va_X b L xs s s.heap) (hbl : b < s.heap.size) (hpre : (Jvm.Cond.and given_1 narrow_1).before #[Value.ref b] s = true) : ∃ G : j_G, j_B G = s.heap.size ∧ j_ad G 1003 = b ∧ j_K G s ∧ j_Rep G (J0 L xs) s s.heap := by
  have hF := flat_of_before _ hpre
  have hW : ∀ w ∈ j_W, w.before #[Value.ref b] s = true := fun w hw => hts w (List.mem_filter.mp hw).1
  have hk : ∀ ci : Nat, ∃ q : ClassId × (Nat → Nat), ci < 9 → u_Kn s (j_on ci) (j_T ci) (j_nf ci) q.1 q.2 := by
    intro ci
    by_cases h : ci < 9
    · obtain ⟨cC, iS, h1⟩ := u_known hW (j_wsW ci h) (hts _ (j_inst ci h))
      exact ⟨(cC, iS), fun _ => h1⟩
    · exact ⟨(0, fun _ => 0), fun h' => absurd h' h⟩
  obtain ⟨dq, hd⟩ := Classical.axiomOfChoice hk
  obtain ⟨cA, kA, cpA, a1, a2, a3⟩ := Cond.arrayClass_spec (hts _ j_objok.2.2)
  have hov : (Cond.arrayOver (.object "WhiffCoins$Sheet")).before #[Value.ref b] s = true := hts _ (List.mem_of_getElem? (i := 254) (by decide +kernel))
  obtain ⟨cpS, cS, kS, b1', b2', b3', b4', b5'⟩ := Cond.arrayOver_spec hov
  obtain ⟨x1, e1, l1, X1⟩ := st_X (f := abK) (N := 7) (by decide) (hF _ st_f5.2.1) (va_eqt (hF _ st_f5.2.2.2.1)) (fun j hj => va_eqt (hF _ (st_f1 j hj)))
  obtain ⟨x2, e2, l2, X2⟩ := st_X (f := fun k => nI (bdK k)) (N := 28) (by decide) (hF _ st_f5.2.2.1) (va_eqt (hF _ st_f5.2.2.2.2.1)) (fun j hj => va_eqt (hF _ (st_f2 j hj)))
  obtain ⟨aK, aV, hv, he⟩ := vk_Sof (args := #[Value.ref b]) (s := s) (N := 2) (tm := st_tS) (len := [3, 3]) (byt := st_by) (A := fun q => s.heap.size ≤ q) (fun i hi => by rw [jd_3 hi]; decide) (fun i hi => hF _ (st_f3 i hi).1) (fun i hi => hF _ (st_f3 i hi).2.1) (fun i hi => hF _ (st_f3 i hi).2.2.1) (fun i hi => hF _ (st_f3 i hi).2.2.2) (fun i hi j hj => hF _ (st_f4 i hi j (by rw [jd_3 hi] at hj; exact hj))) (fun i j hi hj hij => by
    have i2 : (i = 0 ∧ j = 1) ∨ (i = 1 ∧ j = 0) := by omega
    rcases i2 with ⟨q1, q2⟩ | ⟨q1, q2⟩
    · subst q1; subst q2; exact Or.inl (hF _ st_f5.1)
    · subst q1; subst q2; exact Or.inr (hF _ st_f5.1)) (fun a h1 => Nat.not_le.mpr h1)
  refine ⟨st_G (fun i => (dq i).1) (fun i => (dq i).2) cA cS s.heap b x1 x2 aK aV, rfl, by simp [j_ad, st_G], ⟨⟨fun c q hq => ?_, fun k q hq => ?_⟩, va_AO.of hov, fun q hq m hm => va_Nw.of rfl (hts _ (nest_ok q hq m hm)), fun id hid => ?_, ?_⟩, ?_⟩
  · have hc : c < 9 := by
      have := (List.getElem?_eq_some_iff.mp hq).1
      rw [vwCl_9] at this; exact this
    have e := j_vw c hc
    rw [e] at hq
    cases hq
    exact hd c hc
  · match k, hq with
    | 0, hq =>
      cases hq
      exact ⟨fun n z => ⟨fun k h => (by cases h), kA, a2, cpA, a3⟩, a1⟩
    | 1, hq =>
      cases hq
      exact ⟨fun n z => ⟨fun k h => (by cases h), kS, b3', cpS, b4'⟩, kS, cpS, b3', b4', b1', b5'⟩
    | _ + 2, hq => simp at hq
  · rcases hid with q | q
    · subst q
      exact va_Zof (hts _ (List.mem_of_getElem? (i := 403) (by decide +kernel))) (hts _ (j_init 7 (by decide))) e1 (fun a h1 => Nat.not_le.mpr h1)
    · subst q
      exact va_Zof (hts _ (List.mem_of_getElem? (i := 884) (by decide +kernel))) (hts _ (j_init 6 (by decide))) e2 (fun a h1 => Nat.not_le.mpr h1)
  · refine ⟨vk_R.of (hts _ (List.mem_of_getElem? (i := 493) (by decide +kernel))) (he 0 (by decide)), vk_R.of (hts _ (List.mem_of_getElem? (i := 494) (by decide +kernel))) (he 1 (by decide)), st_S (fun i hi => ?_) (fun i hi => ?_) (fun q h => h) hv, va_Zof (hts _ (List.mem_of_getElem? (i := 508) (by decide +kernel))) (hts _ (List.mem_of_getElem? (i := 68) (by decide +kernel))) (va_eqt (hF _ st_f5.2.2.2.2.2)) (fun a h1 => Nat.not_le.mpr h1)⟩
    · have i2 : i = 0 ∨ i = 1 := by omega
      rcases i2 with q | q <;> subst q <;> simp [st_G]
    · have i2 : i = 0 ∨ i = 1 := by omega
      rcases i2 with q | q <;> subst q <;> simp [st_G]
  · have hcl : ∀ o, j_cl (J0 L xs) o = if o = 1001 ∨ o = 1002 ∨ o = 1003 then 22 else 23 := fun o => rfl
    refine ⟨⟨Nat.zero_le _, fun o ho => ?_⟩, fun o ho => ?_, fun q hq => rfl, fun k q hq => ?_⟩
    · rw [hcl] at ho
      split at ho <;> omega
    · rw [hcl] at ho
      have o3 : o = 1001 ∨ o = 1002 ∨ o = 1003 := by
        by_cases c : o = 1001 ∨ o = 1002 ∨ o = 1003
        · exact c
        · rw [if_neg c] at ho; omega
      rcases o3 with q | q | q
      · subst q; exact ⟨by decide, l1, X1⟩
      · subst q; exact ⟨by decide, l2, X2⟩
      · subst q; exact ⟨by decide, hbl, hX⟩
    · simp [j_ws, J0, j_n] at hq
theorem HF_126 {L : Nat} {X : Nat → Int32} : (HF L X).1 = 126 := by
  have a : j_n (PSt (J0 L X) 326) = 126 := tn 326 (by decide +kernel)
  generalize hg : PSt (J0 L X) 326 = g at a
  unfold HF
  rw [hg]
  exact a
theorem tsl {L : Nat} {X : Nat → Int32} (t : Nat) {k : Nat} (h : (PSt (J0 0 fun _ => nI 0) t).2.1 ≤ k) : (PSt (J0 L X) t).2.1 ≤ k := by
  have a := (tw (L := L) (X := X) t).2.1
  rw [a]; exact h
theorem HF_sl {L : Nat} {X : Nat → Int32} : (HF L X).2.1 ≤ 100000 := by
  have a : (PSt (J0 L X) 326).2.1 ≤ 100000 := tsl 326 (by decide +kernel)
  generalize hg : PSt (J0 L X) 326 = g at a
  unfold HF
  rw [hg]
  exact a

theorem FS_n (h : j_Hd) (M : Nat → Nat → Int32) : j_n (FS h M) = h.1 := rfl
theorem FS_s (h : j_Hd) (M : Nat → Nat → Int32) : j_sl (FS h M) = h.2.1 := rfl
theorem law_T {L : Nat} {X : Nat → Int32} (hL : L ≤ 3072) : ∃ τ : j_St, j_n τ = 126 ∧ j_sl τ ≤ 100000 ∧ j_X 200 225 0 [some (.ref 1003), none, none, none] [] (J0 L X) = some (some (.int (nI 1)), τ) := by
  obtain ⟨M', hJ⟩ := law_J (L := L) (X := X) hL (e := 200) (by omega)
  refine ⟨_, ?_, ?_, hJ⟩
  · rw [FS_n]; exact HF_126
  · rw [FS_s]; exact HF_sl

