/-! Calls and ends. -/
variable {l : Launch} {G : j_G} {d mi pc n t : Nat} {L L' : j_L} {S S' : List Value} {σ σ' τ : j_St} {r : Option Value} {sw : List (Int32 × Nat)}
theorem j_sm_sum {G : j_G} {S : List Value} (h : j_sm S = true) : ((S.map (j_tr G)).map fun v => v.category).sum ≤ 8 := by
  have c : ∀ v : Value, v.category ≤ 2 := fun v => by cases v <;> simp [Value.category]
  match S, h with
  | [], _ => simp
  | [a], _ => have := c (j_tr G a); simp; omega
  | [a, b], _ => have := c (j_tr G a); have := c (j_tr G b); simp; omega
  | [a, b, e], _ => have := c (j_tr G a); have := c (j_tr G b); have := c (j_tr G e); simp; omega
  | [a, b, e, f], _ => have := c (j_tr G a); have := c (j_tr G b); have := c (j_tr G e); have := c (j_tr G f); simp; omega
  | [a, b, e, f, g], h =>
    have h5 : a.category + b.category + e.category + f.category + g.category ≤ 8 := of_decide_eq_true h
    have q : ∀ v : Value, (j_tr G v).category = v.category := fun v => by cases v <;> rfl
    simp [q]; omega
theorem j_room {m : MethodId} {pc : Nat} {ls : Array Slot} {st : List Value} {S : List Value} (h : j_sm S = true) : 2 * (F0 m pc ls st).monitorRoom + ((S.map (j_tr G)).map fun v => v.category).sum ≤ 8 := lv_room (j_sm_sum h)
/-- the machine behind a call -/
theorem j_back {p : Program} {e : Env} {R : Room} {s : State} {m : MethodId} {args a : Array Value} {below : List Frame} {meth : Method} {c : Code} {H : Heap} {locs : List Loc} {ls : Array Slot} {cells slots mc ms mc1 ms1 : Nat} {st0 : List Value} {r1 : Option Value} {σ1 : j_St}
    (C : j_Cx G mi d mc ms p R s m args meth c) (hr : va_Run p l e R s m args below meth c H locs cells slots mc1 ms1 (F0 m pc ls st0) (S.map (j_tr G)) (j_Qc G r1 σ1 a) (j_Ad G)) (hS : va_S (j_Ad G) s.heap H locs) (hL : j_LH G ls (j_ml mi) L) (hk : j_V l G d mi (pc + 3) L (j_ps r1 S) σ1 r τ)
    (h1 : s.heap.size + (cells + mc1) = j_B G + j_n σ1) (h2 : s.heap.size + mc = j_B G + j_n τ) (h3 : ∃ z, z + (slots + ms1) = j_sl σ1 ∧ z + ms = j_sl τ) :
    W p l e R s m args below meth c H locs cells slots (MQ below (j_Qc G r τ) args s mc ms (j_Ad G)) (F0 m pc ls st0) := by
  intro T hT X
  obtain ⟨v, st₀, t, T', L2, h0, X', hL2, e1, e2, ⟨hv, hR1, hsz1, hF⟩, st⟩ := hr T hT X
  have hv : v = r1.map (j_tr G) := Outcome.returned.inj hv
  subst hv
  have hal : s.vm.Alike t.vm := by rw [← e2]; exact X'.warmed.alike
  have hR2 : j_Rep G σ1 s T'.heap := by rw [e1]; exact hR1.moved hal.symm
  have hS2 : va_S (j_Ad G) s.heap T'.heap (locs ++ L2) := by
    unfold va_F at hF
    rw [h0] at hF
    refine ⟨Nat.le_trans hS.1 (by rw [e1]; exact hF.1), fun q a1 a2 => ?_, fun q hq => ?_⟩
    · rw [e1, hF.2 q (Nat.lt_of_lt_of_le a1 hS.1) a2]
      exact hS.2.1 q a1 a2
    · rcases List.mem_append.mp hq with h | h
      · exact hS.2.2 q h
      · exact hL2 q h
  obtain ⟨t2, a1, b1⟩ := hk p e R s m args below meth c mc ms C T'.heap (locs ++ L2) ls (cells + mc1) (slots + ms1) hR2 hS2 hL h1 h2 h3 T' rfl X'
  refine ⟨t2, st t2 ?_, b1⟩
  cases r1 <;> exact a1
theorem j_get_pad {v : Value} : ∀ (k : Nat) (L : j_L) (i : Nat), j_get (j_pad k L) i = some v → j_get L i = some v
  | 0, L, i, h => h
  | k + 1, [], 0, h => by cases h
  | k + 1, [], i + 1, h => by have := j_get_pad k [] i h; cases this
  | k + 1, o :: L, 0, h => h
  | k + 1, o :: L, i + 1, h => j_get_pad k L i h
theorem j_get_lsl {v : Value} : ∀ (as : List Value) (k i : Nat), j_get (j_ls2 as) i = some v → (k + i, j_tr G v) ∈ lv_args k (as.map (j_tr G)) := by
  intro as
  induction as with
  | nil => intro k i h; cases h
  | cons a as ih =>
    intro k i h
    rw [List.map_cons, lv_args]
    cases a with
    | int x =>
      match i, h with
      | 0, h => cases h; exact List.mem_cons_self
      | i + 1, h =>
        refine List.mem_cons_of_mem _ ?_
        have h2 := ih (k + 1) i h
        rw [show k + (i + 1) = k + 1 + i by omega]
        exact h2
    | long x =>
      match i, h with
      | 0, h => cases h; exact List.mem_cons_self
      | 1, h => cases h
      | i + 2, h =>
        refine List.mem_cons_of_mem _ ?_
        have h2 := ih (k + 2) i h
        rw [show k + (i + 2) = k + 2 + i by omega]
        exact h2
    | float x =>
      match i, h with
      | 0, h => cases h; exact List.mem_cons_self
      | i + 1, h =>
        refine List.mem_cons_of_mem _ ?_
        have h2 := ih (k + 1) i h
        rw [show k + (i + 1) = k + 1 + i by omega]
        exact h2
    | double x =>
      match i, h with
      | 0, h => cases h; exact List.mem_cons_self
      | 1, h => cases h
      | i + 2, h =>
        refine List.mem_cons_of_mem _ ?_
        have h2 := ih (k + 2) i h
        rw [show k + (i + 2) = k + 2 + i by omega]
        exact h2
    | null =>
      match i, h with
      | 0, h => cases h; exact List.mem_cons_self
      | i + 1, h =>
        refine List.mem_cons_of_mem _ ?_
        have h2 := ih (k + 1) i h
        rw [show k + (i + 1) = k + 1 + i by omega]
        exact h2
    | ref x =>
      match i, h with
      | 0, h => cases h; exact List.mem_cons_self
      | i + 1, h =>
        refine List.mem_cons_of_mem _ ?_
        have h2 := ih (k + 1) i h
        rw [show k + (i + 1) = k + 1 + i by omega]
        exact h2
    | retAddr x =>
      match i, h with
      | 0, h => cases h; exact List.mem_cons_self
      | i + 1, h =>
        refine List.mem_cons_of_mem _ ?_
        have h2 := ih (k + 1) i h
        rw [show k + (i + 1) = k + 1 + i by omega]
        exact h2
theorem j_lg_len (w : Value) (ws : List Value) : (lg_sl (w :: ws)).length = (if w.category = 2 then 2 else 1) + (lg_sl ws).length := by
  unfold lg_sl
  rw [List.flatMap_cons, List.length_append]
  split <;> rfl
theorem j_fit_len : ∀ (as : List Value) (m : Nat), j_fit m as = true → (lg_sl (as.map (j_tr G))).length ≤ m := by
  intro as
  induction as with
  | nil => intro m h; exact Nat.zero_le _
  | cons a as ih =>
    intro m h
    rw [List.map_cons, j_lg_len, j_tr_cat]
    cases a with
    | long x =>
      match m, h with
      | m + 2, h =>
        have h2 := ih m h
        rw [if_pos (show (Value.long x).category = 2 from rfl)]
        omega
    | double x =>
      match m, h with
      | m + 2, h =>
        have h2 := ih m h
        rw [if_pos (show (Value.double x).category = 2 from rfl)]
        omega
    | int x =>
      match m, h with
      | m + 1, h =>
        have h2 := ih m h
        rw [if_neg (show ¬ (Value.int x).category = 2 from fun q => absurd q (by show ¬ 1 = 2; decide))]
        omega
    | float x =>
      match m, h with
      | m + 1, h =>
        have h2 := ih m h
        rw [if_neg (show ¬ (Value.float x).category = 2 from fun q => absurd q (by show ¬ 1 = 2; decide))]
        omega
    | null =>
      match m, h with
      | m + 1, h =>
        have h2 := ih m h
        rw [if_neg (show ¬ Value.null.category = 2 from fun q => absurd q (by show ¬ 1 = 2; decide))]
        omega
    | ref x =>
      match m, h with
      | m + 1, h =>
        have h2 := ih m h
        rw [if_neg (show ¬ (Value.ref x).category = 2 from fun q => absurd q (by show ¬ 1 = 2; decide))]
        omega
    | retAddr x =>
      match m, h with
      | m + 1, h =>
        have h2 := ih m h
        rw [if_neg (show ¬ (Value.retAddr x).category = 2 from fun q => absurd q (by show ¬ 1 = 2; decide))]
        omega
theorem j_sm_dummy : j_sm [] = true := rfl
/-- a method's contract out of its run -/
def j_rm (d mc ms : Nat) : Room := { frames := d + 10, cells := mc, slots := ms, locals := 64 * d + 500 }
def j_wsm (q : j_MT) : List Cond := Cond.code (j_y q) (j_b q) q.2.2.2.2.2.1 q.2.2.2.2.2.2.1 :: j_W
def j_Pc (G : j_G) (as : List Value) (σ : j_St) : Array Value → State → Prop := va_Pc (as.map (j_tr G)) (fun U => j_Rep G σ U U.heap ∧ j_K G U ∧ U.heap.size = j_B G + j_n σ)
theorem j_blind (as : List Value) (σ : j_St) : FrameBlind (j_Pc G as σ) := fun a U g mk q => ⟨q.1, q.2.1.moved (Vm.Alike.refl U.vm), j_K.warm (U := U.calling g mk a) (State.WarmedH.refl U) q.2.2.1, q.2.2.2⟩
theorem j_met {c : Nat} {q : j_MT} {as : List Value} (hq : j_m c = some q) (hP : j_mP q) (hfit : j_fit (j_ml c) as = true) (hV : j_V l G d c 0 (j_ini c as) [] σ r τ) (hn : j_n σ ≤ j_n τ) (hs : j_sl σ ≤ j_sl τ) :
    Met l (j_y q) (j_wsm q) (j_rm d (j_n τ - j_n σ) (j_sl τ - j_sl σ)) (j_Pc G as σ) (j_Qc G r τ) (j_n τ - j_n σ) (j_sl τ - j_sl σ) (j_Ad G) := by
  have eml : j_ml c = q.2.2.2.2.2.1 := by unfold j_ml; rw [hq]
  have ert : j_rt c = q.2.2.2.2.2.2.1 := by unfold j_rt; rw [hq]
  have eow : j_own c = q.1 := by unfold j_own; rw [hq]
  have ekd : j_kind c = q.2.1 := by unfold j_kind; rw [hq]
  obtain ⟨p1, p2, ⟨p3, p4, p5, p6, p7, p8⟩, p9⟩ := hP
  refine Met.ofW (cc := j_b q) (maxL := q.2.2.2.2.2.1) (ret := q.2.2.2.2.2.2.1) p4 rfl ?_
  intro p e s m args below meth c0 s₁ B hml hv
  obtain ⟨rfl, hR, hK, hsz⟩ := hv
  have hts := atoms_spec (ws := j_wsm q) B.pre
  have hl := lv_entry (as.map (j_tr G)) (n := q.2.2.2.2.2.1) (by rw [← eml]; exact j_fit_len as _ hfit)
  rw [lg_entry_eq]
  have hLH : j_LH G ((lg_sl (as.map (j_tr G)) ++ List.replicate (q.2.2.2.2.2.1 - (lg_sl (as.map (j_tr G))).length) Slot.unset).toArray) (j_ml c) (j_ini c as) := by
    refine ⟨by rw [eml]; exact hl.1, hl.2.1, fun i v hv => ?_⟩
    have h2 := j_get_lsl (G := G) as 0 i (j_get_pad _ _ _ hv)
    rw [Nat.zero_add] at h2
    exact hl.2.2 _ h2
  refine hV p e (headSpec (j_wsm q) (j_rm d (j_n τ - j_n σ) (j_sl τ - j_sl σ))).room s m _ below meth c0 (j_n τ - j_n σ) (j_sl τ - j_sl σ) ⟨⟨B.exec, ⟨q, hq, B.bytes⟩, by rw [eml]; exact hml, by rw [ert]; exact B.returns, B.notSynchronized⟩, ⟨?_, fun w hw => hts w (List.mem_cons_of_mem _ hw), hK⟩, ⟨Nat.le_refl _, Nat.le_refl _, Nat.le_refl _, Nat.le_refl _⟩, fun hk => ?_, by omega⟩ s.heap [] _ 0 0 hR va_S.rf hLH (by omega) (by omega) ⟨j_sl σ, by omega, by omega⟩
  · rw [eow, ← p3]
    exact findClass_of_methodNamed B.named
  · rw [ekd] at hk
    rw [hk] at p9
    rw [(name_of_methodNamed B.named B.method).1]
    exact p9.2
theorem j_good {w : Cond} (h : w ∈ lw_tbl) (g : goodWord w = true) : w ∈ j_W ∧ ((w.onTables && w.keeps) = true ∨ ∃ ty, w = .arrayClass ty) := ⟨j_W_of h g, good_of_word g⟩
theorem j_goodW {w : Cond} (h : w ∈ j_W) : w ∈ j_W ∧ ((w.onTables && w.keeps) = true ∨ ∃ ty, w = .arrayClass ty) := ⟨h, good_of_word (List.mem_filter.mp h).2⟩
theorem j_good_wsm {q : j_MT} (hP : j_mP q) : GoodIn j_W (j_wsm q) := by
  intro w hw
  rcases List.mem_cons.mp hw with rfl | hw
  · exact j_good hP.1 rfl
  · exact j_goodW hw
theorem j_pops_inv : ∀ {k : Nat} {S acc : List Value} {f : List Value → List Value → j_A} {a}, j_pops k S acc f = some a → ∃ as S', S = as.reverse ++ S' ∧ as.length = k ∧ f (as ++ acc) S' = some a
  | 0, S, acc, f, a, h => ⟨[], S, rfl, rfl, h⟩
  | k + 1, [], acc, f, a, h => by cases h
  | k + 1, v :: S, acc, f, a, h => by
    obtain ⟨as, S', h1, h2, h3⟩ := j_pops_inv (k := k) (S := S) (acc := v :: acc) h
    refine ⟨as ++ [v], S', by rw [h1]; simp, by simp [h2], by rw [List.append_assoc]; exact h3⟩
/-- a call of an instance method -/
theorem j_r_callV {k c ns o : Nat} {q : j_MT} {as : List Value} {σ1 : j_St} {r1 : Option Value} (hd : j_code mi pc = some (.invokevirtual k, n, t, sw)) (hl : n = pc + 3) (hf : j_cr mi k = some (c, ns)) (hc : c < 1000) (hq : j_m c = some q) (hkd : q.2.1 = 0) (hP : j_mP q) (hlen : as.length = q.2.2.1) (hcl : j_cl σ o = q.1 ∧ q.1 < 9)
    (hsm : j_sm S = true) (hfit : j_fit (j_ml c) (.ref o :: as) = true) (hV : j_V l G d c 0 (j_ini c (.ref o :: as)) [] σ r1 σ1) (hn : j_n σ ≤ j_n σ1) (hs : j_sl σ ≤ j_sl σ1) (hn2 : j_n σ1 ≤ j_n τ) (hs2 : j_sl σ1 ≤ j_sl τ) (hk : j_V l G (d + 1) mi n L (j_ps r1 S) σ1 r τ) :
    j_V l G (d + 1) mi pc L (as.reverse ++ .ref o :: S) σ r τ := by
  have hM := j_met hq hP hfit hV hn hs
  refine j_full hd hl (fun {p e R s m args below meth c0 mc ms cc} C hb hdg H locs ls cells slots hR hS hL h1 h2 h3 => ?_)
  subst hl
  have hcok := j_cok _ (j_lk2_mem hf)
  obtain ⟨q', hq', hlink⟩ : ∃ m, j_m c = some m ∧ (if ns = 0 then Cond.methodLink (j_on (j_own mi)) k (j_y m) ∈ lw_tbl else (j_own mi, k, c) ∈ j_nest) := by
    unfold j_cP at hcok
    dsimp only at hcok
    split at hcok <;> first | omega | exact hcok
  cases hq.symm.trans hq'
  obtain ⟨p1, p2, ⟨p3, p4, p5, p6, p7, p8⟩, p9⟩ := id hP
  rw [hkd] at p9
  obtain ⟨z, z1, z2⟩ := h3
  have hro := C.2.2.1
  refine j_size hR hS C.2.2.2.2 h1 (fun hsz => ?_)
  have hroom : (j_rm d (j_n σ1 - j_n σ) (j_sl σ1 - j_sl σ)).frames + 1 ≤ R.frames ∧ 8 + (q.2.2.2.2.2.1 + 11) + (j_rm d (j_n σ1 - j_n σ) (j_sl σ1 - j_sl σ)).locals ≤ R.locals := by
    show d + 10 + 1 ≤ R.frames ∧ 8 + (q.2.2.2.2.2.1 + 11) + (64 * d + 500) ≤ R.locals
    omega
  have hwat := j_ws_at (G := G) hR.1 (o := o) (by omega)
  rw [j_en_obj hcl.1 hcl.2] at hwat
  have hPre : PreV s H (j_y q).cls (j_ad G o) (j_Pc G (.ref o :: as) σ) (as.map (j_tr G)) := by
    refine ⟨j_blind _ _, ?_, fun U hU hW => ⟨rfl, ?_, C.2.1.2.2.warm hW, by rw [hU]; exact hsz⟩⟩
    · rw [p3]
      exact va_recv (q := (j_on q.1, j_T q.1, j_nf q.1)) C.2.1.2.2.1 hR.2.2.2 (j_vw q.1 hcl.2) hwat
    · rw [hU]; exact hR.moved hW.alike
  have hstack : (F0 m pc ls ((as.reverse ++ .ref o :: S).map (j_tr G))).stack = (as.map (j_tr G)).reverse ++ .ref (j_ad G o) :: S.map (j_tr G) := by
    show (as.reverse ++ .ref o :: S).map (j_tr G) = _
    rw [List.map_append, List.map_reverse]; rfl
  have hpc : (parseMethodDescriptor (j_y q).desc).map (fun d => d.parameters.length) = some as.length := by rw [hlen]; exact p7
  have hgs := j_good_wsm hP
  have hfin : cells + (j_n σ1 - j_n σ) ≤ R.cells ∧ slots + (j_sl σ1 - j_sl σ) ≤ R.slots := by omega
  by_cases hns : ns = 0
  · rw [if_pos hns] at hlink
    refine j_back C (va_runV (As := as.map (j_tr G)) (Ts := j_W) (own := j_on (j_own mi)) (C := (j_y q).cls) ⟨C.1.1, hb, C.1.2.2.1, C.2.1.1, C.2.1.2.1⟩ hM (cwV as.length C.2.1.2.1 ?_ rfl rfl rfl ⟨rfl, p5, p6, hpc⟩ hroom) hPre rfl (by simp) hL.1 hstack (j_room hsm) hdg hfin) hS hL hk (by omega) h2 ⟨z, by omega, z2⟩
    intro w hw
    unfold wsV at hw
    rcases List.mem_append.mp hw with hw | hw
    · simp only [List.mem_cons, List.not_mem_nil, or_false] at hw
      rcases hw with rfl | rfl | rfl | rfl
      · exact j_good hlink rfl
      · exact j_good p9.1 rfl
      · exact j_good p9.2 rfl
      · exact j_good p2 rfl
    · exact hgs w hw
  · rw [if_neg hns] at hlink
    have hnw := C.2.1.2.2.2.2.1 _ hlink q hq
    exact j_back C (va_runVN (As := as.map (j_tr G)) (Ts := j_W) (own := j_on (j_own mi)) (C := (j_y q).cls) ⟨C.1.1, hb, C.1.2.2.1, C.2.1.1, C.2.1.2.1⟩ hM ⟨va_cnB as.length C.2.1.2.1 hgs rfl rfl rfl hnw (j_W_at C.2.1.2.1 p2 rfl) ⟨p5, p6, hpc⟩ hroom, j_W_at C.2.1.2.1 p9.1 rfl, j_W_at C.2.1.2.1 p9.2 rfl⟩ hPre rfl (by simp) hL.1 hstack (j_room hsm) hdg hfin) hS hL hk (by omega) h2 ⟨z, by omega, z2⟩
/-- a call of a static method -/
theorem j_r_callS {k c ns : Nat} {q : j_MT} {as : List Value} {σ1 : j_St} {r1 : Option Value} (hd : j_code mi pc = some (.invokestatic k, n, t, sw)) (hl : n = pc + 3) (hf : j_cr mi k = some (c, ns)) (hc : c < 1000) (hq : j_m c = some q) (hkd : q.2.1 = 2) (hP : j_mP q) (hlen : as.length = q.2.2.1)
    (hsm : j_sm S = true) (hfit : j_fit (j_ml c) as = true) (hV : j_V l G d c 0 (j_ini c as) [] σ r1 σ1) (hn : j_n σ ≤ j_n σ1) (hs : j_sl σ ≤ j_sl σ1) (hn2 : j_n σ1 ≤ j_n τ) (hs2 : j_sl σ1 ≤ j_sl τ) (hk : j_V l G (d + 1) mi n L (j_ps r1 S) σ1 r τ) :
    j_V l G (d + 1) mi pc L (as.reverse ++ S) σ r τ := by
  have hM := j_met hq hP hfit hV hn hs
  refine j_full hd hl (fun {p e R s m args below meth c0 mc ms cc} C hb hdg H locs ls cells slots hR hS hL h1 h2 h3 => ?_)
  subst hl
  have hcok := j_cok _ (j_lk2_mem hf)
  obtain ⟨q', hq', hlink⟩ : ∃ m, j_m c = some m ∧ (if ns = 0 then Cond.methodLink (j_on (j_own mi)) k (j_y m) ∈ lw_tbl else (j_own mi, k, c) ∈ j_nest) := by
    unfold j_cP at hcok
    dsimp only at hcok
    split at hcok <;> first | omega | exact hcok
  cases hq.symm.trans hq'
  obtain ⟨p1, p2, ⟨p3, p4, p5, p6, p7, p8⟩, p9⟩ := id hP
  rw [hkd] at p9
  obtain ⟨z, z1, z2⟩ := h3
  have hro := C.2.2.1
  refine j_size hR hS C.2.2.2.2 h1 (fun hsz => ?_)
  have hroom : (j_rm d (j_n σ1 - j_n σ) (j_sl σ1 - j_sl σ)).frames + 1 ≤ R.frames ∧ 8 + (q.2.2.2.2.2.1 + 11) + (j_rm d (j_n σ1 - j_n σ) (j_sl σ1 - j_sl σ)).locals ≤ R.locals := by
    show d + 10 + 1 ≤ R.frames ∧ 8 + (q.2.2.2.2.2.1 + 11) + (64 * d + 500) ≤ R.locals
    omega
  have hPre : PreS s H (j_Pc G as σ) (as.map (j_tr G)) := ⟨j_blind _ _, fun U hU hW => ⟨rfl, by rw [hU]; exact hR.moved hW.alike, C.2.1.2.2.warm hW, by rw [hU]; exact hsz⟩⟩
  have hstack : (F0 m pc ls ((as.reverse ++ S).map (j_tr G))).stack = (as.map (j_tr G)).reverse ++ S.map (j_tr G) := by
    show (as.reverse ++ S).map (j_tr G) = _
    rw [List.map_append, List.map_reverse]
  have hpc : (parseMethodDescriptor (j_y q).desc).map (fun d => d.parameters.length) = some as.length := by rw [hlen]; exact p7
  have hgs := j_good_wsm hP
  have hfin : cells + (j_n σ1 - j_n σ) ≤ R.cells ∧ slots + (j_sl σ1 - j_sl σ) ≤ R.slots := by omega
  by_cases hns : ns = 0
  · rw [if_pos hns] at hlink
    refine j_back C (va_runS (As := as.map (j_tr G)) (Ts := j_W) (own := j_on (j_own mi)) ⟨C.1.1, hb, C.1.2.2.1, C.2.1.1, C.2.1.2.1⟩ hM (va_cwS as.length C.2.1.2.1 ?_ rfl rfl rfl ⟨p5, p6, hpc⟩ hroom) hPre rfl (by simp) hL.1 hstack (j_room hsm) hdg hfin) hS hL hk (by omega) h2 ⟨z, by omega, z2⟩
    intro w hw
    unfold va_wsS at hw
    rcases List.mem_append.mp hw with hw | hw
    · simp only [List.mem_cons, List.not_mem_nil, or_false] at hw
      rcases hw with rfl | rfl | rfl
      · exact j_good hlink rfl
      · exact j_good p9 rfl
      · exact j_good p2 rfl
    · exact hgs w hw
  · rw [if_neg hns] at hlink
    have hnw := C.2.1.2.2.2.2.1 _ hlink q hq
    exact j_back C (va_runSN (As := as.map (j_tr G)) (Ts := j_W) (own := j_on (j_own mi)) ⟨C.1.1, hb, C.1.2.2.1, C.2.1.1, C.2.1.2.1⟩ hM ⟨va_cnB as.length C.2.1.2.1 hgs rfl rfl rfl hnw (j_W_at C.2.1.2.1 p2 rfl) ⟨p5, p6, hpc⟩ hroom, j_W_at C.2.1.2.1 p9 rfl, trivial⟩ hPre rfl (by simp) hL.1 hstack (j_room hsm) hdg hfin) hS hL hk (by omega) h2 ⟨z, by omega, z2⟩
/-- a call of a constructor -/
theorem j_r_callI {k c ns o : Nat} {q : j_MT} {as : List Value} {σ1 : j_St} (hd : j_code mi pc = some (.invokespecial k, n, t, sw)) (hl : n = pc + 3) (hf : j_cr mi k = some (c, ns)) (hc : c < 1000) (hq : j_m c = some q) (hkd : q.2.1 = 1) (hret : q.2.2.2.2.2.2.1 = none) (hP : j_mP q) (hlen : as.length = q.2.2.1) {r1 : Option Value}
    (hsm : j_sm S = true) (hfit : j_fit (j_ml c) (.ref o :: as) = true) (hV : j_V l G d c 0 (j_ini c (.ref o :: as)) [] σ r1 σ1) (hn : j_n σ ≤ j_n σ1) (hs : j_sl σ ≤ j_sl σ1) (hn2 : j_n σ1 ≤ j_n τ) (hs2 : j_sl σ1 ≤ j_sl τ) (hk : j_V l G (d + 1) mi n L (j_ps r1 S) σ1 r τ) :
    j_V l G (d + 1) mi pc L (as.reverse ++ .ref o :: S) σ r τ := by
  have hM := j_met hq hP hfit hV hn hs
  refine j_full hd hl (fun {p e R s m args below meth c0 mc ms cc} C hb hdg H locs ls cells slots hR hS hL h1 h2 h3 => ?_)
  subst hl
  have hcok := j_cok _ (j_lk2_mem hf)
  obtain ⟨q', hq', hlink⟩ : ∃ m, j_m c = some m ∧ (if ns = 0 then Cond.methodLink (j_on (j_own mi)) k (j_y m) ∈ lw_tbl else (j_own mi, k, c) ∈ j_nest) := by
    unfold j_cP at hcok
    dsimp only at hcok
    split at hcok <;> first | omega | exact hcok
  cases hq.symm.trans hq'
  obtain ⟨p1, p2, ⟨p3, p4, p5, p6, p7, p8⟩, p9⟩ := id hP
  rw [hkd] at p9
  obtain ⟨z, z1, z2⟩ := h3
  have hro := C.2.2.1
  refine j_size hR hS C.2.2.2.2 h1 (fun hsz => ?_)
  have hroom : (j_rm d (j_n σ1 - j_n σ) (j_sl σ1 - j_sl σ)).frames + 1 ≤ R.frames ∧ 8 + (q.2.2.2.2.2.1 + 11) + (j_rm d (j_n σ1 - j_n σ) (j_sl σ1 - j_sl σ)).locals ≤ R.locals := by
    show d + 10 + 1 ≤ R.frames ∧ 8 + (q.2.2.2.2.2.1 + 11) + (64 * d + 500) ≤ R.locals
    omega
  have hPre : PreS s H (j_Pc G (.ref o :: as) σ) (.ref (j_ad G o) :: as.map (j_tr G)) := ⟨j_blind _ _, fun U hU hW => ⟨rfl, by rw [hU]; exact hR.moved hW.alike, C.2.1.2.2.warm hW, by rw [hU]; exact hsz⟩⟩
  have hstack : (F0 m pc ls ((as.reverse ++ .ref o :: S).map (j_tr G))).stack = (as.map (j_tr G)).reverse ++ .ref (j_ad G o) :: S.map (j_tr G) := by
    show (as.reverse ++ .ref o :: S).map (j_tr G) = _
    rw [List.map_append, List.map_reverse]; rfl
  have hpc : (parseMethodDescriptor (j_y q).desc).map (fun d => d.parameters.length) = some as.length := by rw [hlen]; exact p7
  have hgs := j_good_wsm hP
  have hws : j_wsm q = Cond.code (j_y q) (j_b q) q.2.2.2.2.2.1 none :: j_W := by unfold j_wsm; rw [hret]
  have hfin : cells + (j_n σ1 - j_n σ) ≤ R.cells ∧ slots + (j_sl σ1 - j_sl σ) ≤ R.slots := by omega
  by_cases hns : ns = 0
  · rw [if_pos hns] at hlink
    exact j_back C (va_runI (As := as.map (j_tr G)) (Ts := j_W) (own := j_on (j_own mi)) ⟨C.1.1, hb, C.1.2.2.1, C.2.1.1, C.2.1.2.1⟩ hM (cwI as.length C.2.1.2.1 hgs hws rfl rfl (j_W_at C.2.1.2.1 p2 rfl) (j_W_at C.2.1.2.1 hlink rfl) (j_W_at C.2.1.2.1 p9.1 rfl) p9.2 ⟨p5, p6, hpc⟩ hroom) hPre rfl (by simp) hL.1 hstack (j_room hsm) hdg hfin) hS hL hk (by omega) h2 ⟨z, by omega, z2⟩
  · rw [if_neg hns] at hlink
    have hnw := C.2.1.2.2.2.2.1 _ hlink q hq
    exact j_back C (va_runIN (As := as.map (j_tr G)) (Ts := j_W) (own := j_on (j_own mi)) ⟨C.1.1, hb, C.1.2.2.1, C.2.1.1, C.2.1.2.1⟩ hM ⟨va_cnB as.length C.2.1.2.1 hgs hws rfl rfl hnw (j_W_at C.2.1.2.1 p2 rfl) ⟨p5, p6, hpc⟩ hroom, p9.2, j_W_at C.2.1.2.1 p9.1 rfl⟩ hPre rfl (by simp) hL.1 hstack (j_room hsm) hdg hfin) hS hL hk (by omega) h2 ⟨z, by omega, z2⟩
-- ends
theorem j_e_int {x : Int32} (hd : j_code mi pc = some (.ireturn, n, t, sw)) (hl : n = pc + 1) (hrt : ∃ ty, j_rt mi = some ty ∧ narrow ty (.int x) = .int x) : j_V l G d mi pc L [.int x] σ (some (.int x)) σ := by
  obtain ⟨ty, hty, hnr⟩ := hrt
  refine j_full hd hl (fun {p e R s m args below meth c0 mc ms cc} C hb hdg H locs ls cells slots hR hS hL h1 h2 h3 => ?_)
  obtain ⟨z, z1, z2⟩ := h3
  refine j_size hR hS C.2.2.2.2 h1 (fun hsz => ?_)

  have e1 : mc = cells := by omega
  have e2 : ms = slots := by omega
  subst e1
  subst e2
  exact W.zret C.1.1 hb (C.1.2.2.2.1.trans hty) hnr (fun t ht hW => ⟨rfl, by rw [ht]; exact hR.moved hW.alike, by rw [ht]; exact hsz, hS.F ht⟩) hS.2.2 hdg C.1.2.2.2.2
theorem j_e_ref {v : Value} (hd : j_code mi pc = some (.areturn, n, t, sw)) (hl : n = pc + 1) (hrt : ∃ ty, j_rt mi = some ty ∧ j_isR ty = true) (hv : v = .null ∨ ∃ a, v = .ref a) : j_V l G d mi pc L [v] σ (some v) σ := by
  obtain ⟨ty, hty, hnr⟩ := hrt
  refine j_full hd hl (fun {p e R s m args below meth c0 mc ms cc} C hb hdg H locs ls cells slots hR hS hL h1 h2 h3 => ?_)
  obtain ⟨z, z1, z2⟩ := h3
  refine j_size hR hS C.2.2.2.2 h1 (fun hsz => ?_)

  have e1 : mc = cells := by omega
  have e2 : ms = slots := by omega
  subst e1
  subst e2
  refine W.aret C.1.1 hb (C.1.2.2.2.1.trans hty) ?_ ?_ (fun t ht hW => ⟨rfl, by rw [ht]; exact hR.moved hW.alike, by rw [ht]; exact hsz, hS.F ht⟩) hS.2.2 hdg C.1.2.2.2.2
  · cases ty <;> first | exact Or.inl ⟨_, rfl⟩ | exact Or.inr ⟨_, rfl⟩ | cases hnr
  · rcases hv with rfl | ⟨a, rfl⟩
    · exact Or.inl rfl
    · exact Or.inr ⟨_, rfl⟩
theorem j_e_void (hd : j_code mi pc = some (.return_, n, t, sw)) (hl : n = pc + 1) (hrt : j_rt mi = none) : j_V l G d mi pc L [] σ none σ := by
  refine j_full hd hl (fun {p e R s m args below meth c0 mc ms cc} C hb hdg H locs ls cells slots hR hS hL h1 h2 h3 => ?_)
  obtain ⟨z, z1, z2⟩ := h3
  refine j_size hR hS C.2.2.2.2 h1 (fun hsz => ?_)

  have e1 : mc = cells := by omega
  have e2 : ms = slots := by omega
  subst e1
  subst e2
  exact W.vret C.1.1 hb (C.1.2.2.2.1.trans hrt) (fun t ht hW => ⟨rfl, by rw [ht]; exact hR.moved hW.alike, by rw [ht]; exact hsz, hS.F ht⟩) hS.2.2 hdg C.1.2.2.2.2
