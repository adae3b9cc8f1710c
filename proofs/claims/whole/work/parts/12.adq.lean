/-! The case analysis: what J does, the machine does. -/
variable {l : Launch} {G : j_G} {d mi pc n t : Nat} {L L' : j_L} {S S' : List Value} {σ σ' τ : j_St} {r : Option Value} {sw : List (Int32 × Nat)}
theorem j_popI_inv {S : List Value} {f : Int32 → List Value → j_A} {a} (h : j_popI S f = some a) : ∃ x S', S = .int x :: S' ∧ f x S' = some a := by
  unfold j_popI at h
  split at h
  · exact ⟨_, _, rfl, h⟩
  · cases h
theorem j_popJ_inv {S : List Value} {f : Int64 → List Value → j_A} {a} (h : j_popJ S f = some a) : ∃ x S', S = .long x :: S' ∧ f x S' = some a := by
  unfold j_popJ at h
  split at h
  · exact ⟨_, _, rfl, h⟩
  · cases h
theorem j_popR_inv {S : List Value} {f : Nat → List Value → j_A} {a} (h : j_popR S f = some a) : ∃ x S', S = .ref x :: S' ∧ f x S' = some a := by
  unfold j_popR at h
  split at h
  · exact ⟨_, _, rfl, h⟩
  · cases h
theorem j_popA_inv {S : List Value} {f : Value → List Value → j_A} {a} (h : j_popA S f = some a) : ∃ v S', S = v :: S' ∧ f v S' = some a ∧ (v = .null ∨ ∃ x, v = .ref x) := by
  unfold j_popA at h
  split at h
  · exact ⟨_, _, rfl, h, Or.inr ⟨_, rfl⟩⟩
  · exact ⟨_, _, rfl, h, Or.inl rfl⟩
  · cases h
theorem j_pop1_inv {S : List Value} {f : Value → List Value → j_A} {a} (h : j_pop1 S f = some a) : ∃ v S', S = v :: S' ∧ f v S' = some a ∧ v.category = 1 := by
  unfold j_pop1 at h
  split at h
  · exact ⟨_, _, rfl, h, rfl⟩
  · exact ⟨_, _, rfl, h, rfl⟩
  · exact ⟨_, _, rfl, h, rfl⟩
  · cases h
theorem j_ldI_inv {L : j_L} {j : Nat} {f : Value → j_A} {a} (h : j_ldI L j f = some a) : ∃ x, j_get L j = some (.int x) ∧ f (.int x) = some a := by
  unfold j_ldI at h
  split at h
  · rename_i x hx; exact ⟨x, hx, h⟩
  · cases h
theorem j_ldJ_inv {L : j_L} {j : Nat} {f : Value → j_A} {a} (h : j_ldJ L j f = some a) : ∃ x, j_get L j = some (.long x) ∧ f (.long x) = some a := by
  unfold j_ldJ at h
  split at h
  · rename_i x hx; exact ⟨x, hx, h⟩
  · cases h
theorem j_ldR_inv {L : j_L} {j : Nat} {f : Value → j_A} {a} (h : j_ldR L j f = some a) : ∃ v, j_get L j = some v ∧ f v = some a ∧ (v = .null ∨ ∃ x, v = .ref x) := by
  unfold j_ldR at h
  split at h
  · rename_i x hx; exact ⟨_, hx, h, Or.inr ⟨_, rfl⟩⟩
  · rename_i hx; exact ⟨_, hx, h, Or.inl rfl⟩
  · cases h
theorem j_inc_inv {L : j_L} {j : Nat} {f : Int32 → j_A} {a} (h : j_inc L j f = some a) : ∃ x, j_get L j = some (.int x) ∧ f x = some a := by
  unfold j_inc at h
  split at h
  · rename_i x hx; exact ⟨x, hx, h⟩
  · cases h
theorem j_jp_inv {pc pc' : Nat} {L L' : j_L} {S S' : List Value} {σ σ' : j_St} (h : j_jp pc L S σ = some (.inl (pc', L', S', σ'))) : pc' = pc ∧ L' = L ∧ S' = S ∧ σ' = σ := by
  unfold j_jp at h
  cases h
  exact ⟨rfl, rfl, rfl, rfl⟩
theorem j_if_inv {P : Prop} {hD : Decidable P} {A : j_A} {a} (h : (if P then A else none) = some a) : P ∧ A = some a := by
  split at h
  · exact ⟨by assumption, h⟩
  · cases h
theorem j_ln {i : Instr} {k : Nat} (h : j_lenk (pc, (i, n, t, sw)) = true) (hk : j_il i = k + 1) : n = pc + (k + 1) := by
  unfold j_lenk at h
  simp only [Bool.or_eq_true, decide_eq_true_eq, hk] at h
  omega
theorem j_lvmem {G : j_G} {L : j_L} {j : Nat} {v : Value} (h : j_get L j = some v) : ∃ k : Nat, (j_lv G 0 L)[k]? = some (j, j_tr G v) := by
  have h1 : (j, j_tr G v) ∈ j_lv G 0 L := (j_lv_mem L 0 _).mpr ⟨j, v, by simp, h⟩
  exact List.getElem?_of_mem h1
theorem j_sw_lookup {pc : Nat} {d0 : Int} {x : Int32} {t : Nat} (ht : (pc : Int) + d0 = (t : Int)) : ∀ (ps : List (Int × Int)), ps.all (fun a => decide (0 ≤ (pc : Int) + a.2 ∧ (Int32.ofInt a.1).toInt = a.1)) = true → (pc : Int) + Op.lookupswitch.offset ps d0 x.toInt = ((j_sw x (ps.map fun a => (Int32.ofInt a.1, ((pc : Int) + a.2).toNat)) t : Nat) : Int) := by
  intro ps
  induction ps with
  | nil => intro _; simpa [Op.lookupswitch.offset, j_sw] using ht
  | cons a ps ih =>
    intro h
    rw [List.all_cons, Bool.and_eq_true, decide_eq_true_eq] at h
    rw [List.map_cons, j_sw]
    by_cases hx : x = Int32.ofInt a.1
    · rw [if_pos hx, Op.lookupswitch.offset_cons, if_pos (by rw [hx, h.1.2])]
      omega
    · rw [if_neg hx, Op.lookupswitch.offset_cons, if_neg (fun q => hx (Int32.toInt_inj.mp (by rw [h.1.2]; exact q.symm)))]
      exact ih h.2
theorem j_sw_table {pc : Nat} {x : Int32} {t : Nat} {lo : Int} (os : List Int) : ∀ (k m : Nat), (∀ i : Nat, i < k + m → (Int32.ofInt (lo + i)).toInt = lo + i) → (∀ i : Nat, k ≤ i → i < k + m → 0 ≤ (pc : Int) + os.getD i 0) →
    (((x.toInt < lo + k ∨ lo + k + m ≤ x.toInt) ∧ j_sw x ((List.range' k m).map fun (i : Nat) => (Int32.ofInt (lo + (i : Int)), ((pc : Int) + os.getD i 0).toNat)) t = t) ∨ ∃ i : Nat, k ≤ i ∧ i < k + m ∧ x.toInt = lo + i ∧ ((j_sw x ((List.range' k m).map fun (i : Nat) => (Int32.ofInt (lo + (i : Int)), ((pc : Int) + os.getD i 0).toNat)) t : Nat) : Int) = (pc : Int) + os.getD i 0) := by
  intro k m
  induction m generalizing k with
  | zero => intro _ _; exact Or.inl ⟨by omega, rfl⟩
  | succ m ih =>
    intro h1 h2
    rw [List.range'_succ, List.map_cons, j_sw]
    by_cases hx : x = Int32.ofInt (lo + (k : Int))
    · refine Or.inr ⟨k, Nat.le_refl _, by omega, by rw [hx, h1 k (by omega)], ?_⟩
      rw [if_pos hx]
      have := h2 k (Nat.le_refl _) (by omega)
      omega
    · have hne : x.toInt ≠ lo + k := fun q => hx (Int32.toInt_inj.mp (by rw [q, h1 k (by omega)]))
      rw [if_neg hx]
      rcases ih (k + 1) (fun i hi => h1 i (by omega)) (fun i hi hj => h2 i (by omega) (by omega)) with ⟨h, e⟩ | ⟨i, a1, a2, a3, a4⟩
      · exact Or.inl ⟨by push_cast at h; omega, e⟩
      · exact Or.inr ⟨i, by omega, by omega, a3, a4⟩

theorem j_r_gets {k id : Nat} (hd : j_code mi pc = some (.getstatic k, n, t, sw)) (hl : n = pc + 3) (hf : j_sr mi k = some id) (hk : j_V l G d mi n L (.ref id :: S) σ r τ) : j_V l G d mi pc L S σ r τ := by
  obtain ⟨f1, f2⟩ := j_sok _ (j_lk2_mem hf)
  dsimp only at f1 f2
  refine j_full hd hl (fun {p e R s m args below meth c mc ms cc} C hb hdg H locs ls cells slots hR hS hL h1 h2 h3 => ?_)
  subst hl
  have hZ := (C.2.1.2.2.2.2.2.1 id f1).kept (H1 := _) (fun a ha hA => (hS.2.1 a (Nat.lt_of_lt_of_le ha C.2.2.2.2) hA).symm.trans (hR.2.2.1 a ha))
  refine va_gets (own := j_on (j_own mi)) (ref := (j_sn id).1) C.1.1 hb hZ hS C.2.1.1 (j_W_at C.2.1.2.1 f2 rfl) (fun x h => h) hdg ?_
  exact hk p e R s m args below meth c mc ms C H locs ls cells slots hR hS hL h1 h2 h3
theorem j_r_obj {k o ns : Nat} (hd : j_code mi pc = some (.invokespecial k, n, t, sw)) (hl : n = pc + 3) (hf : j_cr mi k = some (1001, ns)) (hsm : j_sm S = true) (hk : j_V l G d mi n L S σ r τ) : j_V l G d mi pc L (.ref o :: S) σ r τ := by
  have f1 : Cond.methodLink (j_on (j_own mi)) k objectInit ∈ lw_tbl := j_cok _ (j_lk2_mem hf)
  refine j_full hd hl (fun {p e R s m args below meth c mc ms cc} C hb hdg H locs ls cells slots hR hS hL h1 h2 h3 => ?_)
  subst hl
  have hsum := j_sm_sum (G := G) hsm
  have hro := C.2.2.1
  refine W.objInit C.1.1 hb C.2.1.1 (j_W_at C.2.1.2.1 f1 rfl) (j_W_at C.2.1.2.1 j_objok.1 rfl) (j_W_at C.2.1.2.1 j_objok.2.1 rfl) rfl (by rw [C.1.2.2.1]; exact hL.1) (a := j_ad G o) (rest := S.map (j_tr G)) rfl hdg (by omega) (by show 2 * 0 + _ + 12 ≤ _; omega) ?_
  exact hk p e R s m args below meth c mc ms C H locs ls cells slots hR hS hL h1 h2 h3
theorem j_r_max {k ns : Nat} {x y : Int32} (hd : j_code mi pc = some (.invokestatic k, n, t, sw)) (hl : n = pc + 3) (hf : j_cr mi k = some (1004, ns)) (hsm : j_sm S = true) (hm : j_n σ ≤ j_n τ ∧ j_sl σ ≤ j_sl τ) (hk : j_V l G d mi n L (.int (if x < y then y else x) :: S) σ r τ) : j_V l G d mi pc L (.int y :: .int x :: S) σ r τ := by
  have f1 : Cond.methodLink (j_on (j_own mi)) k Lib.Math.max.name ∈ lw_tbl := j_cok _ (j_lk2_mem hf)
  refine j_full hd hl (fun {p e R s m args below meth c mc ms cc} C hb hdg H locs ls cells slots hR hS hL h1 h2 h3 => ?_)
  subst hl
  have hsum := j_sm_sum (G := G) hsm
  have hro := C.2.2.1
  obtain ⟨z, z1, z2⟩ := h3
  refine va_mmax C.1.1 hb (by rw [C.1.2.2.1]; exact hL.1.symm) C.2.1.1 (j_W_at C.2.1.2.1 f1 rfl) (j_W_at C.2.1.2.1 j_mathok.1.1 rfl) (j_W_at C.2.1.2.1 j_mathok.1.2.1 rfl) (j_W_at C.2.1.2.1 j_mathok.1.2.2 rfl) (by omega) (by omega) (by omega) (by omega) hdg ?_
  exact hk p e R s m args below meth c mc ms C H locs ls cells slots hR hS hL h1 h2 ⟨z, z1, z2⟩
theorem j_r_min {k ns : Nat} {x y : Int32} (hd : j_code mi pc = some (.invokestatic k, n, t, sw)) (hl : n = pc + 3) (hf : j_cr mi k = some (1005, ns)) (hsm : j_sm S = true) (hm : j_n σ ≤ j_n τ ∧ j_sl σ ≤ j_sl τ) (hk : j_V l G d mi n L (.int (if y < x then y else x) :: S) σ r τ) : j_V l G d mi pc L (.int y :: .int x :: S) σ r τ := by
  have f1 : Cond.methodLink (j_on (j_own mi)) k Lib.Math.min.name ∈ lw_tbl := j_cok _ (j_lk2_mem hf)
  refine j_full hd hl (fun {p e R s m args below meth c mc ms cc} C hb hdg H locs ls cells slots hR hS hL h1 h2 h3 => ?_)
  subst hl
  have hsum := j_sm_sum (G := G) hsm
  have hro := C.2.2.1
  obtain ⟨z, z1, z2⟩ := h3
  refine va_mmin C.1.1 hb (by rw [C.1.2.2.1]; exact hL.1.symm) C.2.1.1 (j_W_at C.2.1.2.1 f1 rfl) (j_W_at C.2.1.2.1 j_mathok.2.1 rfl) (j_W_at C.2.1.2.1 j_mathok.1.2.1 rfl) (j_W_at C.2.1.2.1 j_mathok.2.2 rfl) (by omega) (by omega) (by omega) (by omega) hdg ?_
  exact hk p e R s m args below meth c mc ms C H locs ls cells slots hR hS hL h1 h2 ⟨z, z1, z2⟩
theorem j_M_cpy_ne {a0 sp a1 dp m o : Nat} (h : o ≠ a1) : j_M (j_cpy σ a0 sp a1 dp m) o = j_M σ o := by
  show j_up1 σ.2.2.2.2.2 a1 _ o = _
  unfold j_up1
  rw [if_neg h]
  rfl
theorem j_M_cpy_eq {a0 sp a1 dp m : Nat} : j_M (j_cpy σ a0 sp a1 dp m) a1 = va_cpy (j_M σ a0) (j_M σ a1) sp dp m := by
  show j_up1 σ.2.2.2.2.2 a1 _ a1 = _
  unfold j_up1
  rw [if_pos rfl]
  rfl
theorem j_nn {z : Int32} (h : 0 ≤ z.toInt) : ¬ z < 0 ∧ z.toInt = (z.toNatClampNeg : Int) := by
  refine ⟨fun q => ?_, ?_⟩
  · rw [Int32.lt_iff_toInt_lt, Int32.toInt_zero] at q; omega
  · show z.toInt = ((z.toInt.toNat : Nat) : Int)
    omega
theorem j_ws_cpy {a0 sp a1 dp k : Nat} (hw : j_wf σ) (hc : j_cl σ a1 = 20) : (j_ws G σ).set (a1 - 1) (j_ad G a1, .inl (G.2.1, j_len σ a1, .inl (va_cpy (j_M σ a0) (j_M σ a1) sp dp k))) = j_ws G (j_cpy σ a0 sp a1 dp k) := by
  have e2 : j_en G (j_cpy σ a0 sp a1 dp k) a1 = .inl (G.2.1, j_len σ a1, .inl (j_M (j_cpy σ a0 sp a1 dp k) a1)) := j_en_arr (σ := j_cpy σ a0 sp a1 dp k) hc
  rw [← j_M_cpy_eq, ← e2]
  refine j_ws_set hw (by omega) rfl (fun o' ho' => ?_)
  have e5 : ∀ ci, j_fd G (j_cpy σ a0 sp a1 dp k) ci o' = j_fd G σ ci o' := by
    intro ci
    unfold j_fd
    apply List.map_congr_left
    intro s' _
    unfold j_getf
    rw [j_M_cpy_ne ho']
    rfl
  unfold j_en
  rw [j_M_cpy_ne ho', e5]
  rfl
theorem j_r_cpy {k ns a0 a1 : Nat} {cm dp sp : Int32} (hd : j_code mi pc = some (.invokestatic k, n, t, sw)) (hl : n = pc + 3) (hf : j_cr mi k = some (1002, ns)) (hsm : j_sm S = true) (hc0 : j_cl σ a0 = 20) (hc1 : j_cl σ a1 = 20) (g : 0 ≤ cm.toInt ∧ 0 ≤ sp.toInt ∧ 0 ≤ dp.toInt) (g2 : sp.toInt + cm.toInt ≤ (j_len σ a0 : Int) ∧ dp.toInt + cm.toInt ≤ (j_len σ a1 : Int)) (hk : j_V l G d mi n L S (j_cpy σ a0 sp.toNatClampNeg a1 dp.toNatClampNeg cm.toNatClampNeg) r τ) : j_V l G d mi pc L (.int cm :: .int dp :: .ref a1 :: .int sp :: .ref a0 :: S) σ r τ := by
  have f1 : Cond.methodLink (j_on (j_own mi)) k arraycopyName ∈ lw_tbl := j_cok _ (j_lk2_mem hf)
  refine j_full hd hl (fun {p e R s m args below meth c mc ms cc} C hb hdg H locs ls cells slots hR hS hL h1 h2 h3 => ?_)
  subst hl
  have hsum := j_sm_sum (G := G) hsm
  have hro := C.2.2.1
  have w0 := j_ws_at (G := G) hR.1 (o := a0) (by omega)
  rw [j_en_arr hc0] at w0
  have w1 := j_ws_at (G := G) hR.1 (o := a1) (by omega)
  rw [j_en_arr hc1] at w1
  obtain ⟨n1, e1⟩ := j_nn g.1
  obtain ⟨n2, e2⟩ := j_nn g.2.1
  obtain ⟨n3, e3⟩ := j_nn g.2.2
  have hfw : nativeFrameWords "java/lang/System" "arraycopy" 5 + 11 ≤ 400 := by decide
  refine va_copyi (own := j_on (j_own mi)) C.1.1 hb (by rw [C.1.2.2.1]; exact hL.1.symm) C.2.1.1 (j_W_at C.2.1.2.1 f1 rfl) (j_W_at C.2.1.2.1 j_cpyok.1 rfl) (j_W_at C.2.1.2.1 j_cpyok.2.1 rfl) (j_W_at C.2.1.2.1 j_cpyok.2.2 rfl) C.2.1.2.2.1 hR.2.2.2 (j_D G σ) hS (a0 - 1) (a1 - 1) 0 0 (ty := .int) w0 w1 rfl rfl rfl n2 n3 n1 (by omega) (by omega) (fun _ _ => rfl) (by omega) (by omega) hdg (fun H1 locs1 hP1 hD1 hS1 => ?_)
  rw [j_ws_cpy hR.1 hc1] at hP1
  refine hk p e R s m args below meth c mc ms C H1 locs1 ls cells slots ⟨hR.1, fun o ho => ?_, j_below C.2.2.2.2 hR hS hS1, hP1⟩ hS1 hL h1 h2 h3
  have hst := hR.2.1 o ho
  have hne : o ≠ a1 := by
    intro e
    subst e
    have h22 : j_cl σ o = 22 := ho
    omega
  refine ⟨hst.1, hst.2.1, ?_⟩
  rw [j_M_cpy_ne hne]
  exact hst.2.2
/-- what is owed of Reader.nameOf, which asks the constants of text -/
def j_NM (l : Launch) (G : j_G) : Prop := ∀ (σ : j_St) (o : Nat) (x : Int32), j_cl σ o = 3 → Met l yX3_nameOf (j_wsm jm_51) { frames := 9, cells := 0, slots := 0, locals := 400 } (j_Pc G [.ref o, .int x] σ) (j_Qc G (some (.int (j_nm (j_M σ o 2) x))) σ) 0 0 (j_Ad G)
theorem j_r_name {k ns o : Nat} {x : Int32} (hNM : j_NM l G) (hd : j_code mi pc = some (.invokevirtual k, n, t, sw)) (hl : n = pc + 3) (hf : j_cr mi k = some (1003, ns)) (hsm : j_sm S = true) (hc : j_cl σ o = 3) (hm : j_n σ ≤ j_n τ ∧ j_sl σ ≤ j_sl τ) (hk : j_V l G (d + 1) mi n L (.int (j_nm (j_M σ o 2) x) :: S) σ r τ) : j_V l G (d + 1) mi pc L (.int x :: .ref o :: S) σ r τ := by
  have f1 : Cond.methodLink (j_on (j_own mi)) k yX3_nameOf ∈ lw_tbl := j_cok _ (j_lk2_mem hf)
  refine j_full hd hl (fun {p e R s m args below meth c mc ms cc} C hb hdg H locs ls cells slots hR hS hL h1 h2 h3 => ?_)
  subst hl
  obtain ⟨z, z1, z2⟩ := h3
  have hro := C.2.2.1
  have hP : j_mP jm_51 := jmp_51
  obtain ⟨p1, p2, ⟨p3, p4, p5, p6, p7, p8⟩, p9⟩ := id hP
  refine j_size hR hS C.2.2.2.2 h1 (fun hsz => ?_)
  have hwat := j_ws_at (G := G) hR.1 (o := o) (by omega)
  rw [j_en_obj hc (by omega)] at hwat
  have hPre : PreV s H (j_y jm_51).cls (j_ad G o) (j_Pc G [.ref o, .int x] σ) [.int x] := by
    refine ⟨j_blind _ _, va_recv (q := (RX3, TX3, 4)) C.2.1.2.2.1 hR.2.2.2 rfl hwat, fun U hU hW => ⟨rfl, ?_, C.2.1.2.2.warm hW, by rw [hU]; exact hsz⟩⟩
    rw [hU]; exact hR.moved hW.alike
  have hgs := j_good_wsm hP
  refine j_back C (r1 := some (.int (j_nm (j_M σ o 2) x))) (σ1 := σ) (va_runV (As := [.int x]) (Ts := j_W) (own := j_on (j_own mi)) (C := (j_y jm_51).cls) ⟨C.1.1, hb, C.1.2.2.1, C.2.1.1, C.2.1.2.1⟩ (hNM σ o x hc) (cwV 1 C.2.1.2.1 ?_ rfl rfl rfl ⟨rfl, p5, p6, p7⟩ ⟨by show 9 + 1 ≤ R.frames; omega, by show 8 + (2 + 11) + 400 ≤ R.locals; omega⟩) hPre rfl rfl hL.1 rfl (j_room hsm) hdg ⟨by omega, by omega⟩) hS hL hk (by omega) h2 ⟨z, by omega, z2⟩
  intro w hw
  unfold wsV at hw
  rcases List.mem_append.mp hw with hw | hw
  · simp only [List.mem_cons, List.not_mem_nil, or_false] at hw
    rcases hw with rfl | rfl | rfl | rfl
    · exact j_good f1 rfl
    · exact j_good p9.1 rfl
    · exact j_good p9.2 rfl
    · exact j_good p2 rfl
  · exact hgs w hw

theorem j_full' {i : Instr} (hd : j_code mi pc = some (i, n, t, sw))
    (row : ∀ {p : Program} {e : Env} {R : Room} {s : State} {m : MethodId} {args : Array Value} {below : List Frame} {meth : Method} {c : Code} {mc ms : Nat} {cc : ByteArray}, j_Cx G mi d mc ms p R s m args meth c → c.code = cc → decode cc pc = .ok (i, n - pc) → ∀ (H : Heap) (locs : List Loc) (ls : Array Slot) (cells slots : Nat), j_Rep G σ s H → va_S (j_Ad G) s.heap H locs → j_LH G ls (j_ml mi) L → s.heap.size + cells = j_B G + j_n σ → s.heap.size + mc = j_B G + j_n τ → (∃ z, z + slots = j_sl σ ∧ z + ms = j_sl τ) →
      W p l e R s m args below meth c H locs cells slots (MQ below (j_Qc G r τ) args s mc ms (j_Ad G)) (F0 m pc ls (S.map (j_tr G)))) : j_V l G d mi pc L S σ r τ := by
  intro p e R s m args below meth c mc ms C H locs ls cells slots hR hS hL h1 h2 h3
  obtain ⟨q, hq, hdc, -⟩ := j_dec hd
  obtain ⟨q', hq', hb⟩ := C.1.2.1
  cases hq.symm.trans hq'
  exact row C hb hdc H locs ls cells slots hR hS hL h1 h2 h3
theorem j_cal_no {c n : Nat} {L : j_L} {S as : List Value} {σ : j_St} {x} (h : j_cal c n L S as σ = some (.inl x)) : False := by
  unfold j_cal at h
  split at h <;> cases h
def j_opk : Nat → Nat
  | 1001 => 1
  | 1002 => 2
  | 1003 => 0
  | 1004 => 2
  | 1005 => 2
  | _ => 9
/-- which instruction calls what (a check of the tables) -/
def j_iop : Instr → Nat × Nat
  | .invokevirtual k => (0, k)
  | .invokespecial k => (1, k)
  | .invokestatic k => (2, k)
  | _ => (9, 0)
def j_opc (o : Nat) (q : Nat × j_CE) : Bool := if (j_iop q.2.1).1 = 9 then true else match j_lk2 j_cl_ o (j_iop q.2.1).2 with
  | none => true
  | some (c, _) => if c < 1000 then (match j_m c with
    | some m => decide (m.2.1 = (j_iop q.2.1).1) && decide ((j_iop q.2.1).1 = 1 → m.2.2.2.2.2.2.1 = none) && decide ((j_iop q.2.1).1 = 0 → m.1 < 9)
    | none => false) else decide (j_opk c = (j_iop q.2.1).1)
theorem j_gp0 {ci s0 o : Nat} {v : Int32} (h1 : j_kd ci s0 = 1 → False) (h2 : j_kd ci s0 = 2 → False) : j_getf ci s0 (j_put σ o s0 v) o = .int v := by
  unfold j_getf
  split
  · exact (h1 (by assumption)).elim
  · exact (h2 (by assumption)).elim
  · rw [j_M_put_eq]
theorem j_gp2 {ci s0 o v : Nat} (h : j_kd ci s0 = 2) (h1 : 1 ≤ v) (h2 : v < 1000) : j_getf ci s0 (j_put σ o s0 (nI v)) o = .ref v := by
  unfold j_getf
  split
  · omega
  · rw [j_M_put_eq, nI_clamp (by omega)]
    unfold j_rv
    rw [if_neg (by omega)]
  · contradiction

theorem jop_0 : jl_0.all (j_opc 0) = true := by decide +kernel
theorem jop_1 : jl_1.all (j_opc 0) = true := by decide +kernel
theorem jop_2 : jl_2.all (j_opc 0) = true := by decide +kernel
theorem jop_3 : jl_3.all (j_opc 0) = true := by decide +kernel
theorem jop_4 : jl_4.all (j_opc 1) = true := by decide +kernel
theorem jop_5 : jl_5.all (j_opc 1) = true := by decide +kernel
theorem jop_6 : jl_6.all (j_opc 1) = true := by decide +kernel
theorem jop_7 : jl_7.all (j_opc 1) = true := by decide +kernel
theorem jop_8 : jl_8.all (j_opc 1) = true := by decide +kernel
theorem jop_9 : jl_9.all (j_opc 1) = true := by decide +kernel
theorem jop_10 : jl_10.all (j_opc 1) = true := by decide +kernel
theorem jop_11 : jl_11.all (j_opc 1) = true := by decide +kernel
theorem jop_12 : jl_12.all (j_opc 1) = true := by decide +kernel
theorem jop_13 : jl_13.all (j_opc 1) = true := by decide +kernel
theorem jop_14 : jl_14.all (j_opc 1) = true := by decide +kernel
theorem jop_15 : jl_15.all (j_opc 1) = true := by decide +kernel
theorem jop_16 : jl_16.all (j_opc 1) = true := by decide +kernel
theorem jop_17 : jl_17.all (j_opc 1) = true := by decide +kernel
theorem jop_18 : jl_18.all (j_opc 1) = true := by decide +kernel
theorem jop_19 : jl_19.all (j_opc 1) = true := by decide +kernel
theorem jop_20 : jl_20.all (j_opc 1) = true := by decide +kernel
theorem jop_21 : jl_21.all (j_opc 1) = true := by decide +kernel
theorem jop_22 : jl_22.all (j_opc 1) = true := by decide +kernel
theorem jop_23 : jl_23.all (j_opc 1) = true := by decide +kernel
theorem jop_24 : jl_24.all (j_opc 1) = true := by decide +kernel
theorem jop_25 : jl_25.all (j_opc 1) = true := by decide +kernel
theorem jop_26 : jl_26.all (j_opc 1) = true := by decide +kernel
theorem jop_27 : jl_27.all (j_opc 1) = true := by decide +kernel
theorem jop_28 : jl_28.all (j_opc 1) = true := by decide +kernel
theorem jop_29 : jl_29.all (j_opc 1) = true := by decide +kernel
theorem jop_30 : jl_30.all (j_opc 1) = true := by decide +kernel
theorem jop_31 : jl_31.all (j_opc 2) = true := by decide +kernel
theorem jop_32 : jl_32.all (j_opc 2) = true := by decide +kernel
theorem jop_33 : jl_33.all (j_opc 2) = true := by decide +kernel
theorem jop_34 : jl_34.all (j_opc 2) = true := by decide +kernel
theorem jop_35 : jl_35.all (j_opc 2) = true := by decide +kernel
theorem jop_36 : jl_36.all (j_opc 2) = true := by decide +kernel
theorem jop_37 : jl_37.all (j_opc 2) = true := by decide +kernel
theorem jop_38 : jl_38.all (j_opc 2) = true := by decide +kernel
theorem jop_39 : jl_39.all (j_opc 2) = true := by decide +kernel
theorem jop_40 : jl_40.all (j_opc 2) = true := by decide +kernel
theorem jop_41 : jl_41.all (j_opc 2) = true := by decide +kernel
theorem jop_42 : jl_42.all (j_opc 2) = true := by decide +kernel
theorem jop_43 : jl_43.all (j_opc 3) = true := by decide +kernel
theorem jop_44 : jl_44.all (j_opc 3) = true := by decide +kernel
theorem jop_45 : jl_45.all (j_opc 3) = true := by decide +kernel
theorem jop_46 : jl_46.all (j_opc 3) = true := by decide +kernel
theorem jop_47 : jl_47.all (j_opc 3) = true := by decide +kernel
theorem jop_48 : jl_48.all (j_opc 3) = true := by decide +kernel
theorem jop_49 : jl_49.all (j_opc 3) = true := by decide +kernel
theorem jop_50 : jl_50.all (j_opc 3) = true := by decide +kernel
theorem jop_51 : jl_51.all (j_opc 3) = true := by decide +kernel
theorem jop_52 : jl_52.all (j_opc 3) = true := by decide +kernel
theorem jop_53 : jl_53.all (j_opc 3) = true := by decide +kernel
theorem jop_54 : jl_54.all (j_opc 4) = true := by decide +kernel
theorem jop_55 : jl_55.all (j_opc 4) = true := by decide +kernel
theorem jop_56 : jl_56.all (j_opc 4) = true := by decide +kernel
theorem jop_57 : jl_57.all (j_opc 4) = true := by decide +kernel
theorem jop_58 : jl_58.all (j_opc 5) = true := by decide +kernel
theorem jop_59 : jl_59.all (j_opc 5) = true := by decide +kernel
theorem jop_60 : jl_60.all (j_opc 5) = true := by decide +kernel
theorem jop_61 : jl_61.all (j_opc 5) = true := by decide +kernel
theorem jop_62 : jl_62.all (j_opc 5) = true := by decide +kernel
theorem jop_63 : jl_63.all (j_opc 5) = true := by decide +kernel
theorem jop_64 : jl_64.all (j_opc 5) = true := by decide +kernel
theorem jop_65 : jl_65.all (j_opc 5) = true := by decide +kernel
theorem jop_66 : jl_66.all (j_opc 5) = true := by decide +kernel
theorem jop_67 : jl_67.all (j_opc 5) = true := by decide +kernel
theorem jop_68 : jl_68.all (j_opc 5) = true := by decide +kernel
theorem jop_69 : jl_69.all (j_opc 5) = true := by decide +kernel
theorem jop_70 : jl_70.all (j_opc 5) = true := by decide +kernel
theorem jop_71 : jl_71.all (j_opc 5) = true := by decide +kernel
theorem jop_72 : jl_72.all (j_opc 5) = true := by decide +kernel
theorem jop_73 : jl_73.all (j_opc 6) = true := by decide +kernel
theorem jop_74 : jl_74.all (j_opc 6) = true := by decide +kernel
theorem jop_75 : jl_75.all (j_opc 6) = true := by decide +kernel
theorem jop_76 : jl_76.all (j_opc 6) = true := by decide +kernel
theorem jop_77 : jl_77.all (j_opc 6) = true := by decide +kernel
theorem jop_78 : jl_78.all (j_opc 6) = true := by decide +kernel
theorem jop_79 : jl_79.all (j_opc 7) = true := by decide +kernel
theorem jop_80 : jl_80.all (j_opc 7) = true := by decide +kernel
theorem jop_81 : jl_81.all (j_opc 7) = true := by decide +kernel
theorem jop_82 : jl_82.all (j_opc 7) = true := by decide +kernel
theorem jop_83 : jl_83.all (j_opc 7) = true := by decide +kernel
theorem jop_84 : jl_84.all (j_opc 7) = true := by decide +kernel
theorem jop_85 : jl_85.all (j_opc 7) = true := by decide +kernel
theorem jop_86 : jl_86.all (j_opc 7) = true := by decide +kernel
theorem jop_87 : jl_87.all (j_opc 7) = true := by decide +kernel
theorem jop_88 : jl_88.all (j_opc 7) = true := by decide +kernel
theorem jop_89 : jl_89.all (j_opc 7) = true := by decide +kernel
theorem jop_90 : jl_90.all (j_opc 7) = true := by decide +kernel
theorem jop_91 : jl_91.all (j_opc 7) = true := by decide +kernel
theorem jop_92 : jl_92.all (j_opc 7) = true := by decide +kernel
theorem jop_93 : jl_93.all (j_opc 7) = true := by decide +kernel
theorem jop_94 : jl_94.all (j_opc 7) = true := by decide +kernel
theorem jop_95 : jl_95.all (j_opc 7) = true := by decide +kernel
theorem jop_96 : jl_96.all (j_opc 7) = true := by decide +kernel
theorem jop_97 : jl_97.all (j_opc 7) = true := by decide +kernel
theorem jop_98 : jl_98.all (j_opc 7) = true := by decide +kernel
theorem jop_99 : jl_99.all (j_opc 7) = true := by decide +kernel
theorem jop_100 : jl_100.all (j_opc 7) = true := by decide +kernel
theorem jop_101 : jl_101.all (j_opc 7) = true := by decide +kernel
theorem jop_102 : jl_102.all (j_opc 7) = true := by decide +kernel
theorem jop_103 : jl_103.all (j_opc 7) = true := by decide +kernel
theorem jop_104 : jl_104.all (j_opc 7) = true := by decide +kernel
theorem jop_105 : jl_105.all (j_opc 7) = true := by decide +kernel
theorem jop_106 : jl_106.all (j_opc 7) = true := by decide +kernel
theorem jop_107 : jl_107.all (j_opc 7) = true := by decide +kernel
theorem jop_108 : jl_108.all (j_opc 7) = true := by decide +kernel
theorem jop_109 : jl_109.all (j_opc 7) = true := by decide +kernel
theorem jop_110 : jl_110.all (j_opc 7) = true := by decide +kernel
theorem jop_111 : jl_111.all (j_opc 7) = true := by decide +kernel
theorem jop_112 : jl_112.all (j_opc 7) = true := by decide +kernel
theorem jop_113 : jl_113.all (j_opc 7) = true := by decide +kernel
theorem jop_114 : jl_114.all (j_opc 7) = true := by decide +kernel
theorem jop_115 : jl_115.all (j_opc 7) = true := by decide +kernel
theorem jop_116 : jl_116.all (j_opc 7) = true := by decide +kernel
theorem jop_117 : jl_117.all (j_opc 7) = true := by decide +kernel
theorem jop_118 : jl_118.all (j_opc 7) = true := by decide +kernel
theorem jop_119 : jl_119.all (j_opc 7) = true := by decide +kernel
theorem jop_120 : jl_120.all (j_opc 7) = true := by decide +kernel
theorem jop_121 : jl_121.all (j_opc 7) = true := by decide +kernel
theorem jop_122 : jl_122.all (j_opc 7) = true := by decide +kernel
theorem jop_123 : jl_123.all (j_opc 7) = true := by decide +kernel
theorem jop_124 : jl_124.all (j_opc 7) = true := by decide +kernel
theorem jop_125 : jl_125.all (j_opc 7) = true := by decide +kernel
theorem jop_126 : jl_126.all (j_opc 7) = true := by decide +kernel
theorem jop_127 : jl_127.all (j_opc 7) = true := by decide +kernel
theorem jop_128 : jl_128.all (j_opc 7) = true := by decide +kernel
theorem jop_129 : jl_129.all (j_opc 7) = true := by decide +kernel
theorem jop_130 : jl_130.all (j_opc 7) = true := by decide +kernel
theorem jop_131 : jl_131.all (j_opc 7) = true := by decide +kernel
theorem jop_132 : jl_132.all (j_opc 7) = true := by decide +kernel
theorem jop_133 : jl_133.all (j_opc 7) = true := by decide +kernel
theorem jop_134 : jl_134.all (j_opc 7) = true := by decide +kernel
theorem jop_135 : jl_135.all (j_opc 7) = true := by decide +kernel
theorem jop_136 : jl_136.all (j_opc 7) = true := by decide +kernel
theorem jop_137 : jl_137.all (j_opc 7) = true := by decide +kernel
theorem jop_138 : jl_138.all (j_opc 7) = true := by decide +kernel
theorem jop_139 : jl_139.all (j_opc 7) = true := by decide +kernel
theorem jop_140 : jl_140.all (j_opc 7) = true := by decide +kernel
theorem jop_141 : jl_141.all (j_opc 8) = true := by decide +kernel
theorem jop_142 : jl_142.all (j_opc 8) = true := by decide +kernel
theorem jop_143 : jl_143.all (j_opc 8) = true := by decide +kernel
theorem jop_144 : jl_144.all (j_opc 8) = true := by decide +kernel
theorem jop_145 : jl_145.all (j_opc 8) = true := by decide +kernel
theorem jop_146 : jl_146.all (j_opc 8) = true := by decide +kernel
theorem jop_147 : jl_147.all (j_opc 8) = true := by decide +kernel
theorem jop_148 : jl_148.all (j_opc 8) = true := by decide +kernel
theorem jop_149 : jl_149.all (j_opc 8) = true := by decide +kernel
theorem jop_150 : jl_150.all (j_opc 8) = true := by decide +kernel
theorem jop_151 : jl_151.all (j_opc 8) = true := by decide +kernel
theorem jop_152 : jl_152.all (j_opc 8) = true := by decide +kernel
theorem jop_153 : jl_153.all (j_opc 8) = true := by decide +kernel
theorem jop_154 : jl_154.all (j_opc 8) = true := by decide +kernel
theorem jop_155 : jl_155.all (j_opc 8) = true := by decide +kernel
theorem jop_156 : jl_156.all (j_opc 8) = true := by decide +kernel
theorem jop_157 : jl_157.all (j_opc 8) = true := by decide +kernel
theorem jop_158 : jl_158.all (j_opc 8) = true := by decide +kernel
theorem jop_159 : jl_159.all (j_opc 8) = true := by decide +kernel
theorem jop_160 : jl_160.all (j_opc 8) = true := by decide +kernel
theorem jop_161 : jl_161.all (j_opc 8) = true := by decide +kernel
theorem jop_162 : jl_162.all (j_opc 8) = true := by decide +kernel
theorem jop_163 : jl_163.all (j_opc 8) = true := by decide +kernel
theorem jop_164 : jl_164.all (j_opc 8) = true := by decide +kernel
theorem jop_165 : jl_165.all (j_opc 8) = true := by decide +kernel
theorem jop_166 : jl_166.all (j_opc 8) = true := by decide +kernel
theorem jop_167 : jl_167.all (j_opc 8) = true := by decide +kernel
theorem jop_168 : jl_168.all (j_opc 8) = true := by decide +kernel
theorem jop_169 : jl_169.all (j_opc 8) = true := by decide +kernel
theorem jop_170 : jl_170.all (j_opc 8) = true := by decide +kernel
theorem jop_171 : jl_171.all (j_opc 8) = true := by decide +kernel
theorem jop_172 : jl_172.all (j_opc 8) = true := by decide +kernel
theorem jop_173 : jl_173.all (j_opc 8) = true := by decide +kernel
theorem jop_174 : jl_174.all (j_opc 8) = true := by decide +kernel
theorem jop_175 : jl_175.all (j_opc 8) = true := by decide +kernel
theorem jop_176 : jl_176.all (j_opc 8) = true := by decide +kernel
theorem jop_177 : jl_177.all (j_opc 8) = true := by decide +kernel
theorem jop_178 : jl_178.all (j_opc 8) = true := by decide +kernel
theorem jop_179 : jl_179.all (j_opc 8) = true := by decide +kernel
theorem jop_180 : jl_180.all (j_opc 8) = true := by decide +kernel
theorem jop_181 : jl_181.all (j_opc 8) = true := by decide +kernel
theorem jop_182 : jl_182.all (j_opc 8) = true := by decide +kernel
theorem jop_183 : jl_183.all (j_opc 8) = true := by decide +kernel
theorem jop_184 : jl_184.all (j_opc 8) = true := by decide +kernel
theorem jop_185 : jl_185.all (j_opc 8) = true := by decide +kernel
theorem jop_186 : jl_186.all (j_opc 8) = true := by decide +kernel
theorem jop_187 : jl_187.all (j_opc 8) = true := by decide +kernel
theorem jop_188 : jl_188.all (j_opc 8) = true := by decide +kernel
theorem jop_189 : jl_189.all (j_opc 8) = true := by decide +kernel
theorem jop_190 : jl_190.all (j_opc 8) = true := by decide +kernel
theorem jop_191 : jl_191.all (j_opc 8) = true := by decide +kernel
theorem jop_192 : jl_192.all (j_opc 8) = true := by decide +kernel
theorem jop_193 : jl_193.all (j_opc 8) = true := by decide +kernel
theorem jop_194 : jl_194.all (j_opc 8) = true := by decide +kernel
theorem jop_195 : jl_195.all (j_opc 8) = true := by decide +kernel
theorem jop_196 : jl_196.all (j_opc 8) = true := by decide +kernel
theorem jop_197 : jl_197.all (j_opc 8) = true := by decide +kernel
theorem jop_198 : jl_198.all (j_opc 8) = true := by decide +kernel
theorem jop_199 : jl_199.all (j_opc 8) = true := by decide +kernel
theorem jop_200 : jl_200.all (j_opc 8) = true := by decide +kernel
theorem jop_201 : jl_201.all (j_opc 8) = true := by decide +kernel
theorem jop_202 : jl_202.all (j_opc 8) = true := by decide +kernel
theorem jop_203 : jl_203.all (j_opc 8) = true := by decide +kernel
theorem jop_204 : jl_204.all (j_opc 8) = true := by decide +kernel
theorem jop_205 : jl_205.all (j_opc 8) = true := by decide +kernel
theorem jop_206 : jl_206.all (j_opc 8) = true := by decide +kernel
theorem jop_207 : jl_207.all (j_opc 8) = true := by decide +kernel
theorem jop_208 : jl_208.all (j_opc 8) = true := by decide +kernel
theorem jop_209 : jl_209.all (j_opc 8) = true := by decide +kernel
theorem jop_210 : jl_210.all (j_opc 8) = true := by decide +kernel
theorem jop_211 : jl_211.all (j_opc 8) = true := by decide +kernel
theorem jop_212 : jl_212.all (j_opc 8) = true := by decide +kernel
theorem jop_213 : jl_213.all (j_opc 8) = true := by decide +kernel
theorem jop_214 : jl_214.all (j_opc 8) = true := by decide +kernel
theorem jop_215 : jl_215.all (j_opc 8) = true := by decide +kernel
theorem jop_216 : jl_216.all (j_opc 8) = true := by decide +kernel
theorem jop_217 : jl_217.all (j_opc 8) = true := by decide +kernel
theorem jop_218 : jl_218.all (j_opc 8) = true := by decide +kernel
theorem jop_219 : jl_219.all (j_opc 8) = true := by decide +kernel
theorem jop_220 : jl_220.all (j_opc 8) = true := by decide +kernel
theorem jop_221 : jl_221.all (j_opc 8) = true := by decide +kernel
theorem jop_222 : jl_222.all (j_opc 8) = true := by decide +kernel
theorem jop_223 : jl_223.all (j_opc 8) = true := by decide +kernel
theorem jop_224 : jl_224.all (j_opc 10) = true := by decide +kernel
theorem jop_225 : jl_225.all (j_opc 9) = true := by decide +kernel
set_option maxRecDepth 100000 in
theorem j_opall : ∀ m ∈ j_mt, m.2.2.2.2.2.2.2.all (j_opc m.1) = true := List.forall_mem_cons.mpr ⟨jop_0, List.forall_mem_cons.mpr ⟨jop_1, List.forall_mem_cons.mpr ⟨jop_2, List.forall_mem_cons.mpr ⟨jop_3, List.forall_mem_cons.mpr ⟨jop_4, List.forall_mem_cons.mpr ⟨jop_5, List.forall_mem_cons.mpr ⟨jop_6, List.forall_mem_cons.mpr ⟨jop_7, List.forall_mem_cons.mpr ⟨jop_8, List.forall_mem_cons.mpr ⟨jop_9, List.forall_mem_cons.mpr ⟨jop_10, List.forall_mem_cons.mpr ⟨jop_11, List.forall_mem_cons.mpr ⟨jop_12, List.forall_mem_cons.mpr ⟨jop_13, List.forall_mem_cons.mpr ⟨jop_14, List.forall_mem_cons.mpr ⟨jop_15, List.forall_mem_cons.mpr ⟨jop_16, List.forall_mem_cons.mpr ⟨jop_17, List.forall_mem_cons.mpr ⟨jop_18, List.forall_mem_cons.mpr ⟨jop_19, List.forall_mem_cons.mpr ⟨jop_20, List.forall_mem_cons.mpr ⟨jop_21, List.forall_mem_cons.mpr ⟨jop_22, List.forall_mem_cons.mpr ⟨jop_23, List.forall_mem_cons.mpr ⟨jop_24, List.forall_mem_cons.mpr ⟨jop_25, List.forall_mem_cons.mpr ⟨jop_26, List.forall_mem_cons.mpr ⟨jop_27, List.forall_mem_cons.mpr ⟨jop_28, List.forall_mem_cons.mpr ⟨jop_29, List.forall_mem_cons.mpr ⟨jop_30, List.forall_mem_cons.mpr ⟨jop_31, List.forall_mem_cons.mpr ⟨jop_32, List.forall_mem_cons.mpr ⟨jop_33, List.forall_mem_cons.mpr ⟨jop_34, List.forall_mem_cons.mpr ⟨jop_35, List.forall_mem_cons.mpr ⟨jop_36, List.forall_mem_cons.mpr ⟨jop_37, List.forall_mem_cons.mpr ⟨jop_38, List.forall_mem_cons.mpr ⟨jop_39, List.forall_mem_cons.mpr ⟨jop_40, List.forall_mem_cons.mpr ⟨jop_41, List.forall_mem_cons.mpr ⟨jop_42, List.forall_mem_cons.mpr ⟨jop_43, List.forall_mem_cons.mpr ⟨jop_44, List.forall_mem_cons.mpr ⟨jop_45, List.forall_mem_cons.mpr ⟨jop_46, List.forall_mem_cons.mpr ⟨jop_47, List.forall_mem_cons.mpr ⟨jop_48, List.forall_mem_cons.mpr ⟨jop_49, List.forall_mem_cons.mpr ⟨jop_50, List.forall_mem_cons.mpr ⟨jop_51, List.forall_mem_cons.mpr ⟨jop_52, List.forall_mem_cons.mpr ⟨jop_53, List.forall_mem_cons.mpr ⟨jop_54, List.forall_mem_cons.mpr ⟨jop_55, List.forall_mem_cons.mpr ⟨jop_56, List.forall_mem_cons.mpr ⟨jop_57, List.forall_mem_cons.mpr ⟨jop_58, List.forall_mem_cons.mpr ⟨jop_59, List.forall_mem_cons.mpr ⟨jop_60, List.forall_mem_cons.mpr ⟨jop_61, List.forall_mem_cons.mpr ⟨jop_62, List.forall_mem_cons.mpr ⟨jop_63, List.forall_mem_cons.mpr ⟨jop_64, List.forall_mem_cons.mpr ⟨jop_65, List.forall_mem_cons.mpr ⟨jop_66, List.forall_mem_cons.mpr ⟨jop_67, List.forall_mem_cons.mpr ⟨jop_68, List.forall_mem_cons.mpr ⟨jop_69, List.forall_mem_cons.mpr ⟨jop_70, List.forall_mem_cons.mpr ⟨jop_71, List.forall_mem_cons.mpr ⟨jop_72, List.forall_mem_cons.mpr ⟨jop_73, List.forall_mem_cons.mpr ⟨jop_74, List.forall_mem_cons.mpr ⟨jop_75, List.forall_mem_cons.mpr ⟨jop_76, List.forall_mem_cons.mpr ⟨jop_77, List.forall_mem_cons.mpr ⟨jop_78, List.forall_mem_cons.mpr ⟨jop_79, List.forall_mem_cons.mpr ⟨jop_80, List.forall_mem_cons.mpr ⟨jop_81, List.forall_mem_cons.mpr ⟨jop_82, List.forall_mem_cons.mpr ⟨jop_83, List.forall_mem_cons.mpr ⟨jop_84, List.forall_mem_cons.mpr ⟨jop_85, List.forall_mem_cons.mpr ⟨jop_86, List.forall_mem_cons.mpr ⟨jop_87, List.forall_mem_cons.mpr ⟨jop_88, List.forall_mem_cons.mpr ⟨jop_89, List.forall_mem_cons.mpr ⟨jop_90, List.forall_mem_cons.mpr ⟨jop_91, List.forall_mem_cons.mpr ⟨jop_92, List.forall_mem_cons.mpr ⟨jop_93, List.forall_mem_cons.mpr ⟨jop_94, List.forall_mem_cons.mpr ⟨jop_95, List.forall_mem_cons.mpr ⟨jop_96, List.forall_mem_cons.mpr ⟨jop_97, List.forall_mem_cons.mpr ⟨jop_98, List.forall_mem_cons.mpr ⟨jop_99, List.forall_mem_cons.mpr ⟨jop_100, List.forall_mem_cons.mpr ⟨jop_101, List.forall_mem_cons.mpr ⟨jop_102, List.forall_mem_cons.mpr ⟨jop_103, List.forall_mem_cons.mpr ⟨jop_104, List.forall_mem_cons.mpr ⟨jop_105, List.forall_mem_cons.mpr ⟨jop_106, List.forall_mem_cons.mpr ⟨jop_107, List.forall_mem_cons.mpr ⟨jop_108, List.forall_mem_cons.mpr ⟨jop_109, List.forall_mem_cons.mpr ⟨jop_110, List.forall_mem_cons.mpr ⟨jop_111, List.forall_mem_cons.mpr ⟨jop_112, List.forall_mem_cons.mpr ⟨jop_113, List.forall_mem_cons.mpr ⟨jop_114, List.forall_mem_cons.mpr ⟨jop_115, List.forall_mem_cons.mpr ⟨jop_116, List.forall_mem_cons.mpr ⟨jop_117, List.forall_mem_cons.mpr ⟨jop_118, List.forall_mem_cons.mpr ⟨jop_119, List.forall_mem_cons.mpr ⟨jop_120, List.forall_mem_cons.mpr ⟨jop_121, List.forall_mem_cons.mpr ⟨jop_122, List.forall_mem_cons.mpr ⟨jop_123, List.forall_mem_cons.mpr ⟨jop_124, List.forall_mem_cons.mpr ⟨jop_125, List.forall_mem_cons.mpr ⟨jop_126, List.forall_mem_cons.mpr ⟨jop_127, List.forall_mem_cons.mpr ⟨jop_128, List.forall_mem_cons.mpr ⟨jop_129, List.forall_mem_cons.mpr ⟨jop_130, List.forall_mem_cons.mpr ⟨jop_131, List.forall_mem_cons.mpr ⟨jop_132, List.forall_mem_cons.mpr ⟨jop_133, List.forall_mem_cons.mpr ⟨jop_134, List.forall_mem_cons.mpr ⟨jop_135, List.forall_mem_cons.mpr ⟨jop_136, List.forall_mem_cons.mpr ⟨jop_137, List.forall_mem_cons.mpr ⟨jop_138, List.forall_mem_cons.mpr ⟨jop_139, List.forall_mem_cons.mpr ⟨jop_140, List.forall_mem_cons.mpr ⟨jop_141, List.forall_mem_cons.mpr ⟨jop_142, List.forall_mem_cons.mpr ⟨jop_143, List.forall_mem_cons.mpr ⟨jop_144, List.forall_mem_cons.mpr ⟨jop_145, List.forall_mem_cons.mpr ⟨jop_146, List.forall_mem_cons.mpr ⟨jop_147, List.forall_mem_cons.mpr ⟨jop_148, List.forall_mem_cons.mpr ⟨jop_149, List.forall_mem_cons.mpr ⟨jop_150, List.forall_mem_cons.mpr ⟨jop_151, List.forall_mem_cons.mpr ⟨jop_152, List.forall_mem_cons.mpr ⟨jop_153, List.forall_mem_cons.mpr ⟨jop_154, List.forall_mem_cons.mpr ⟨jop_155, List.forall_mem_cons.mpr ⟨jop_156, List.forall_mem_cons.mpr ⟨jop_157, List.forall_mem_cons.mpr ⟨jop_158, List.forall_mem_cons.mpr ⟨jop_159, List.forall_mem_cons.mpr ⟨jop_160, List.forall_mem_cons.mpr ⟨jop_161, List.forall_mem_cons.mpr ⟨jop_162, List.forall_mem_cons.mpr ⟨jop_163, List.forall_mem_cons.mpr ⟨jop_164, List.forall_mem_cons.mpr ⟨jop_165, List.forall_mem_cons.mpr ⟨jop_166, List.forall_mem_cons.mpr ⟨jop_167, List.forall_mem_cons.mpr ⟨jop_168, List.forall_mem_cons.mpr ⟨jop_169, List.forall_mem_cons.mpr ⟨jop_170, List.forall_mem_cons.mpr ⟨jop_171, List.forall_mem_cons.mpr ⟨jop_172, List.forall_mem_cons.mpr ⟨jop_173, List.forall_mem_cons.mpr ⟨jop_174, List.forall_mem_cons.mpr ⟨jop_175, List.forall_mem_cons.mpr ⟨jop_176, List.forall_mem_cons.mpr ⟨jop_177, List.forall_mem_cons.mpr ⟨jop_178, List.forall_mem_cons.mpr ⟨jop_179, List.forall_mem_cons.mpr ⟨jop_180, List.forall_mem_cons.mpr ⟨jop_181, List.forall_mem_cons.mpr ⟨jop_182, List.forall_mem_cons.mpr ⟨jop_183, List.forall_mem_cons.mpr ⟨jop_184, List.forall_mem_cons.mpr ⟨jop_185, List.forall_mem_cons.mpr ⟨jop_186, List.forall_mem_cons.mpr ⟨jop_187, List.forall_mem_cons.mpr ⟨jop_188, List.forall_mem_cons.mpr ⟨jop_189, List.forall_mem_cons.mpr ⟨jop_190, List.forall_mem_cons.mpr ⟨jop_191, List.forall_mem_cons.mpr ⟨jop_192, List.forall_mem_cons.mpr ⟨jop_193, List.forall_mem_cons.mpr ⟨jop_194, List.forall_mem_cons.mpr ⟨jop_195, List.forall_mem_cons.mpr ⟨jop_196, List.forall_mem_cons.mpr ⟨jop_197, List.forall_mem_cons.mpr ⟨jop_198, List.forall_mem_cons.mpr ⟨jop_199, List.forall_mem_cons.mpr ⟨jop_200, List.forall_mem_cons.mpr ⟨jop_201, List.forall_mem_cons.mpr ⟨jop_202, List.forall_mem_cons.mpr ⟨jop_203, List.forall_mem_cons.mpr ⟨jop_204, List.forall_mem_cons.mpr ⟨jop_205, List.forall_mem_cons.mpr ⟨jop_206, List.forall_mem_cons.mpr ⟨jop_207, List.forall_mem_cons.mpr ⟨jop_208, List.forall_mem_cons.mpr ⟨jop_209, List.forall_mem_cons.mpr ⟨jop_210, List.forall_mem_cons.mpr ⟨jop_211, List.forall_mem_cons.mpr ⟨jop_212, List.forall_mem_cons.mpr ⟨jop_213, List.forall_mem_cons.mpr ⟨jop_214, List.forall_mem_cons.mpr ⟨jop_215, List.forall_mem_cons.mpr ⟨jop_216, List.forall_mem_cons.mpr ⟨jop_217, List.forall_mem_cons.mpr ⟨jop_218, List.forall_mem_cons.mpr ⟨jop_219, List.forall_mem_cons.mpr ⟨jop_220, List.forall_mem_cons.mpr ⟨jop_221, List.forall_mem_cons.mpr ⟨jop_222, List.forall_mem_cons.mpr ⟨jop_223, List.forall_mem_cons.mpr ⟨jop_224, List.forall_mem_cons.mpr ⟨jop_225, fun _ h => absurd h List.not_mem_nil⟩⟩⟩⟩⟩⟩⟩⟩⟩⟩⟩⟩⟩⟩⟩⟩⟩⟩⟩⟩⟩⟩⟩⟩⟩⟩⟩⟩⟩⟩⟩⟩⟩⟩⟩⟩⟩⟩⟩⟩⟩⟩⟩⟩⟩⟩⟩⟩⟩⟩⟩⟩⟩⟩⟩⟩⟩⟩⟩⟩⟩⟩⟩⟩⟩⟩⟩⟩⟩⟩⟩⟩⟩⟩⟩⟩⟩⟩⟩⟩⟩⟩⟩⟩⟩⟩⟩⟩⟩⟩⟩⟩⟩⟩⟩⟩⟩⟩⟩⟩⟩⟩⟩⟩⟩⟩⟩⟩⟩⟩⟩⟩⟩⟩⟩⟩⟩⟩⟩⟩⟩⟩⟩⟩⟩⟩⟩⟩⟩⟩⟩⟩⟩⟩⟩⟩⟩⟩⟩⟩⟩⟩⟩⟩⟩⟩⟩⟩⟩⟩⟩⟩⟩⟩⟩⟩⟩⟩⟩⟩⟩⟩⟩⟩⟩⟩⟩⟩⟩⟩⟩⟩⟩⟩⟩⟩⟩⟩⟩⟩⟩⟩⟩⟩⟩⟩⟩⟩⟩⟩⟩⟩⟩⟩⟩⟩⟩⟩⟩⟩⟩⟩⟩⟩⟩⟩⟩⟩⟩⟩⟩⟩⟩⟩⟩⟩⟩⟩⟩⟩⟩⟩⟩⟩⟩⟩
theorem j_opat {i : Instr} (hd : j_code mi pc = some (i, n, t, sw)) : j_opc (j_own mi) (pc, (i, n, t, sw)) = true := by
  unfold j_code at hd
  split at hd
  · rename_i q hq
    have hm := j_nth_mem (show j_nth j_mt mi = some q from hq)
    have hl := j_lk_mem hd
    have h1 := List.all_eq_true.mp (j_opall q hm) _ hl
    unfold j_own
    rw [hq]
    exact h1
  · cases hd
theorem j_opbad {i : Instr} {k c ns a : Nat} (hd : j_code mi pc = some (i, n, t, sw)) (hi : j_iop i = (a, k)) (ha : a < 9) (hc : 1000 ≤ c) (hf : j_cr mi k = some (c, ns)) (hne : j_opk c ≠ a) : False := by
  have h := j_opat hd
  unfold j_opc at h
  unfold j_cr at hf
  dsimp only at h
  rw [hi, if_neg (by show ¬ a = 9; omega)] at h
  dsimp only at h
  rw [hf] at h
  dsimp only at h
  rw [if_neg (by omega), decide_eq_true_eq] at h
  exact hne h
theorem j_opgood {i : Instr} {k c ns a : Nat} (hd : j_code mi pc = some (i, n, t, sw)) (hi : j_iop i = (a, k)) (ha : a < 9) (hc : c < 1000) (hf : j_cr mi k = some (c, ns)) : ∃ q, j_m c = some q ∧ q.2.1 = a ∧ (a = 1 → q.2.2.2.2.2.2.1 = none) ∧ (a = 0 → q.1 < 9) := by
  have h := j_opat hd
  unfold j_opc at h
  unfold j_cr at hf
  dsimp only at h
  rw [hi, if_neg (by show ¬ a = 9; omega)] at h
  dsimp only at h
  rw [hf] at h
  dsimp only at h
  rw [if_pos hc] at h
  split at h
  · rename_i q hq
    simp only [Bool.and_eq_true, decide_eq_true_eq] at h
    exact ⟨q, hq, h.1.1, h.1.2, h.2⟩
  · cases h

theorem j_jump_invokevirtual {k pc' : Nat} (hNM : j_NM l G) (hcode : j_code mi pc = some (.invokevirtual k, n, t, sw)) (e : n = pc + 3) (h : j_inv mi k n L S σ = some (.inl (pc', L', S', σ'))) (hm : j_n σ' ≤ j_n τ ∧ j_sl σ' ≤ j_sl τ) (hk : j_V l G (d + 1) mi pc' L' S' σ' r τ) : j_V l G (d + 1) mi pc L S σ r τ ∧ j_n σ ≤ j_n σ' ∧ j_sl σ ≤ j_sl σ' := by
  unfold j_inv at h
  split at h
  · cases h
  · rename_i ns hf
    replace h := j_popR_inv h
    obtain ⟨o, S1, eS, h⟩ := h
    subst eS
    obtain ⟨hc, h⟩ := j_if_inv h
    obtain ⟨rfl, rfl, rfl, rfl⟩ := j_jp_inv h
    exact (j_opbad hcode rfl (by decide) (c := 1001) (by decide) hf (by decide)).elim
  · rename_i ns hf
    replace h := j_popI_inv h
    obtain ⟨x1, S1, eS, h⟩ := h
    subst eS
    replace h := j_popI_inv h
    obtain ⟨x2, S2, eS, h⟩ := h
    subst eS
    replace h := j_popR_inv h
    obtain ⟨x3, S3, eS, h⟩ := h
    subst eS
    replace h := j_popI_inv h
    obtain ⟨x4, S4, eS, h⟩ := h
    subst eS
    replace h := j_popR_inv h
    obtain ⟨x5, S5, eS, h⟩ := h
    subst eS
    obtain ⟨hc, h⟩ := j_if_inv h
    obtain ⟨rfl, rfl, rfl, rfl⟩ := j_jp_inv h
    exact (j_opbad hcode rfl (by decide) (c := 1002) (by decide) hf (by decide)).elim
  · rename_i ns hf
    replace h := j_popI_inv h
    obtain ⟨x1, S1, eS, h⟩ := h
    subst eS
    replace h := j_popR_inv h
    obtain ⟨o, S2, eS, h⟩ := h
    subst eS
    obtain ⟨hc, h⟩ := j_if_inv h
    obtain ⟨rfl, rfl, rfl, rfl⟩ := j_jp_inv h
    exact ⟨j_r_name hNM hcode e hf hc.1 hc.2 hm hk, Nat.le_refl _, Nat.le_refl _⟩
  · rename_i ns hf
    replace h := j_popI_inv h
    obtain ⟨x1, S1, eS, h⟩ := h
    subst eS
    replace h := j_popI_inv h
    obtain ⟨x2, S2, eS, h⟩ := h
    subst eS
    obtain ⟨hc, h⟩ := j_if_inv h
    obtain ⟨rfl, rfl, rfl, rfl⟩ := j_jp_inv h
    exact (j_opbad hcode rfl (by decide) (c := 1004) (by decide) hf (by decide)).elim
  · rename_i ns hf
    replace h := j_popI_inv h
    obtain ⟨x1, S1, eS, h⟩ := h
    subst eS
    replace h := j_popI_inv h
    obtain ⟨x2, S2, eS, h⟩ := h
    subst eS
    obtain ⟨hc, h⟩ := j_if_inv h
    obtain ⟨rfl, rfl, rfl, rfl⟩ := j_jp_inv h
    exact (j_opbad hcode rfl (by decide) (c := 1005) (by decide) hf (by decide)).elim
  · exfalso
    obtain ⟨as, S1, -, -, h⟩ := j_pops_inv h
    split at h
    · split at h
      · obtain ⟨-, h⟩ := j_if_inv h
        exact j_cal_no h
      · cases h
    · split at h
      · exact j_cal_no h
      · cases h
    · exact j_cal_no h

theorem j_jump_invokespecial {k pc' : Nat} (hNM : j_NM l G) (hcode : j_code mi pc = some (.invokespecial k, n, t, sw)) (e : n = pc + 3) (h : j_inv mi k n L S σ = some (.inl (pc', L', S', σ'))) (hm : j_n σ' ≤ j_n τ ∧ j_sl σ' ≤ j_sl τ) (hk : j_V l G (d + 1) mi pc' L' S' σ' r τ) : j_V l G (d + 1) mi pc L S σ r τ ∧ j_n σ ≤ j_n σ' ∧ j_sl σ ≤ j_sl σ' := by
  unfold j_inv at h
  split at h
  · cases h
  · rename_i ns hf
    replace h := j_popR_inv h
    obtain ⟨o, S1, eS, h⟩ := h
    subst eS
    obtain ⟨hc, h⟩ := j_if_inv h
    obtain ⟨rfl, rfl, rfl, rfl⟩ := j_jp_inv h
    exact ⟨j_r_obj hcode e hf hc hk, Nat.le_refl _, Nat.le_refl _⟩
  · rename_i ns hf
    replace h := j_popI_inv h
    obtain ⟨x1, S1, eS, h⟩ := h
    subst eS
    replace h := j_popI_inv h
    obtain ⟨x2, S2, eS, h⟩ := h
    subst eS
    replace h := j_popR_inv h
    obtain ⟨x3, S3, eS, h⟩ := h
    subst eS
    replace h := j_popI_inv h
    obtain ⟨x4, S4, eS, h⟩ := h
    subst eS
    replace h := j_popR_inv h
    obtain ⟨x5, S5, eS, h⟩ := h
    subst eS
    obtain ⟨hc, h⟩ := j_if_inv h
    obtain ⟨rfl, rfl, rfl, rfl⟩ := j_jp_inv h
    exact (j_opbad hcode rfl (by decide) (c := 1002) (by decide) hf (by decide)).elim
  · rename_i ns hf
    replace h := j_popI_inv h
    obtain ⟨x1, S1, eS, h⟩ := h
    subst eS
    replace h := j_popR_inv h
    obtain ⟨o, S2, eS, h⟩ := h
    subst eS
    obtain ⟨hc, h⟩ := j_if_inv h
    obtain ⟨rfl, rfl, rfl, rfl⟩ := j_jp_inv h
    exact (j_opbad hcode rfl (by decide) (c := 1003) (by decide) hf (by decide)).elim
  · rename_i ns hf
    replace h := j_popI_inv h
    obtain ⟨x1, S1, eS, h⟩ := h
    subst eS
    replace h := j_popI_inv h
    obtain ⟨x2, S2, eS, h⟩ := h
    subst eS
    obtain ⟨hc, h⟩ := j_if_inv h
    obtain ⟨rfl, rfl, rfl, rfl⟩ := j_jp_inv h
    exact (j_opbad hcode rfl (by decide) (c := 1004) (by decide) hf (by decide)).elim
  · rename_i ns hf
    replace h := j_popI_inv h
    obtain ⟨x1, S1, eS, h⟩ := h
    subst eS
    replace h := j_popI_inv h
    obtain ⟨x2, S2, eS, h⟩ := h
    subst eS
    obtain ⟨hc, h⟩ := j_if_inv h
    obtain ⟨rfl, rfl, rfl, rfl⟩ := j_jp_inv h
    exact (j_opbad hcode rfl (by decide) (c := 1005) (by decide) hf (by decide)).elim
  · exfalso
    obtain ⟨as, S1, -, -, h⟩ := j_pops_inv h
    split at h
    · split at h
      · obtain ⟨-, h⟩ := j_if_inv h
        exact j_cal_no h
      · cases h
    · split at h
      · exact j_cal_no h
      · cases h
    · exact j_cal_no h

theorem j_jump_invokestatic {k pc' : Nat} (hNM : j_NM l G) (hcode : j_code mi pc = some (.invokestatic k, n, t, sw)) (e : n = pc + 3) (h : j_inv mi k n L S σ = some (.inl (pc', L', S', σ'))) (hm : j_n σ' ≤ j_n τ ∧ j_sl σ' ≤ j_sl τ) (hk : j_V l G (d + 1) mi pc' L' S' σ' r τ) : j_V l G (d + 1) mi pc L S σ r τ ∧ j_n σ ≤ j_n σ' ∧ j_sl σ ≤ j_sl σ' := by
  unfold j_inv at h
  split at h
  · cases h
  · rename_i ns hf
    replace h := j_popR_inv h
    obtain ⟨o, S1, eS, h⟩ := h
    subst eS
    obtain ⟨hc, h⟩ := j_if_inv h
    obtain ⟨rfl, rfl, rfl, rfl⟩ := j_jp_inv h
    exact (j_opbad hcode rfl (by decide) (c := 1001) (by decide) hf (by decide)).elim
  · rename_i ns hf
    replace h := j_popI_inv h
    obtain ⟨x1, S1, eS, h⟩ := h
    subst eS
    replace h := j_popI_inv h
    obtain ⟨x2, S2, eS, h⟩ := h
    subst eS
    replace h := j_popR_inv h
    obtain ⟨x3, S3, eS, h⟩ := h
    subst eS
    replace h := j_popI_inv h
    obtain ⟨x4, S4, eS, h⟩ := h
    subst eS
    replace h := j_popR_inv h
    obtain ⟨x5, S5, eS, h⟩ := h
    subst eS
    obtain ⟨hc, h⟩ := j_if_inv h
    obtain ⟨rfl, rfl, rfl, rfl⟩ := j_jp_inv h
    exact ⟨j_r_cpy hcode e hf hc.1.1 hc.1.2.1 hc.1.2.2 hc.2.1 hc.2.2 hk, Nat.le_refl _, Nat.le_refl _⟩
  · rename_i ns hf
    replace h := j_popI_inv h
    obtain ⟨x1, S1, eS, h⟩ := h
    subst eS
    replace h := j_popR_inv h
    obtain ⟨o, S2, eS, h⟩ := h
    subst eS
    obtain ⟨hc, h⟩ := j_if_inv h
    obtain ⟨rfl, rfl, rfl, rfl⟩ := j_jp_inv h
    exact (j_opbad hcode rfl (by decide) (c := 1003) (by decide) hf (by decide)).elim
  · rename_i ns hf
    replace h := j_popI_inv h
    obtain ⟨x1, S1, eS, h⟩ := h
    subst eS
    replace h := j_popI_inv h
    obtain ⟨x2, S2, eS, h⟩ := h
    subst eS
    obtain ⟨hc, h⟩ := j_if_inv h
    obtain ⟨rfl, rfl, rfl, rfl⟩ := j_jp_inv h
    exact ⟨j_r_max hcode e hf hc hm hk, Nat.le_refl _, Nat.le_refl _⟩
  · rename_i ns hf
    replace h := j_popI_inv h
    obtain ⟨x1, S1, eS, h⟩ := h
    subst eS
    replace h := j_popI_inv h
    obtain ⟨x2, S2, eS, h⟩ := h
    subst eS
    obtain ⟨hc, h⟩ := j_if_inv h
    obtain ⟨rfl, rfl, rfl, rfl⟩ := j_jp_inv h
    exact ⟨j_r_min hcode e hf hc hm hk, Nat.le_refl _, Nat.le_refl _⟩
  · exfalso
    obtain ⟨as, S1, -, -, h⟩ := j_pops_inv h
    split at h
    · split at h
      · obtain ⟨-, h⟩ := j_if_inv h
        exact j_cal_no h
      · cases h
    · split at h
      · exact j_cal_no h
      · cases h
    · exact j_cal_no h

set_option maxHeartbeats 4000000 in
theorem j_jump {pc' : Nat} (hNM : j_NM l G) (h : j_act mi pc L S σ = some (.inl (pc', L', S', σ'))) (hm : j_n σ' ≤ j_n τ ∧ j_sl σ' ≤ j_sl τ) (hk : j_V l G (d + 1) mi pc' L' S' σ' r τ) : j_V l G (d + 1) mi pc L S σ r τ ∧ j_n σ ≤ j_n σ' ∧ j_sl σ ≤ j_sl σ' := by
  unfold j_act at h
  split at h
  · cases h
  rename_i i n t sw hcode
  obtain ⟨q, hq, hdc, hlt, htok, hlok⟩ := j_dec hcode
  cases i
  case iload j =>
    have e := j_ln (k := 1) hlok rfl
    obtain ⟨x, hg, h⟩ := j_ldI_inv h
    obtain ⟨rfl, rfl, rfl, rfl⟩ := j_jp_inv h
    subst e
    exact ⟨j_simple hcode rfl hk (fun hx hb hdg hL k => lv_iload hx hb hdg (hL.2.2 _ _ hg) k), Nat.le_refl _, Nat.le_refl _⟩
  case iload_n j =>
    have e := j_ln (k := 0) hlok rfl
    obtain ⟨x, hg, h⟩ := j_ldI_inv h
    obtain ⟨rfl, rfl, rfl, rfl⟩ := j_jp_inv h
    subst e
    exact ⟨j_simple hcode rfl hk (fun hx hb hdg hL k => lv_iload_n hx hb hdg rfl (hL.2.2 _ _ hg) k), Nat.le_refl _, Nat.le_refl _⟩
  case lload j =>
    have e := j_ln (k := 1) hlok rfl
    obtain ⟨x, hg, h⟩ := j_ldJ_inv h
    obtain ⟨rfl, rfl, rfl, rfl⟩ := j_jp_inv h
    subst e
    exact ⟨j_simple hcode rfl hk (fun hx hb hdg hL k => lv_lload hx hb hdg (hL.2.2 _ _ hg) k), Nat.le_refl _, Nat.le_refl _⟩
  case lload_n j =>
    have e := j_ln (k := 0) hlok rfl
    obtain ⟨x, hg, h⟩ := j_ldJ_inv h
    obtain ⟨rfl, rfl, rfl, rfl⟩ := j_jp_inv h
    subst e
    exact ⟨j_simple hcode rfl hk (fun hx hb hdg hL k => lv_lload_n hx hb hdg rfl (hL.2.2 _ _ hg) k), Nat.le_refl _, Nat.le_refl _⟩
  case aload j =>
    have e := j_ln (k := 1) hlok rfl
    obtain ⟨v, hg, h, hv⟩ := j_ldR_inv h
    obtain ⟨rfl, rfl, rfl, rfl⟩ := j_jp_inv h
    subst e
    refine ⟨?_, Nat.le_refl _, Nat.le_refl _⟩
    rcases hv with rfl | ⟨x, rfl⟩
    · exact j_simple hcode rfl hk (fun hx hb hdg hL k => lv_aloadN hx hb hdg (hL.2.2 _ _ hg) k)
    · exact j_simple hcode rfl hk (fun hx hb hdg hL k => lv_aload hx hb hdg (hL.2.2 _ _ hg) k)
  case aload_n j =>
    have e := j_ln (k := 0) hlok rfl
    obtain ⟨v, hg, h, hv⟩ := j_ldR_inv h
    obtain ⟨rfl, rfl, rfl, rfl⟩ := j_jp_inv h
    subst e
    refine ⟨?_, Nat.le_refl _, Nat.le_refl _⟩
    rcases hv with rfl | ⟨x, rfl⟩
    · exact j_simple hcode rfl hk (fun hx hb hdg hL k => lv_aload_nN hx hb hdg rfl (hL.2.2 _ _ hg) k)
    · exact j_simple hcode rfl hk (fun hx hb hdg hL k => lv_aload_n hx hb hdg rfl (hL.2.2 _ _ hg) k)
  case istore j =>
    have e := j_ln (k := 1) hlok rfl
    replace h := j_popI_inv h
    obtain ⟨x1, S1, eS, h⟩ := h
    subst eS
    have htok2 : j < j_ml mi := of_decide_eq_true htok
    obtain ⟨rfl, rfl, rfl, rfl⟩ := j_jp_inv h
    subst e
    exact ⟨j_store hcode rfl hk (fun hx hb hdg hL k => lv_istore hx hb hdg hL.has htok2 rfl (fun ls' hl' => k ls' (j_LH.set (v := .int x1) hl'))), Nat.le_refl _, Nat.le_refl _⟩
  case istore_n j =>
    have e := j_ln (k := 0) hlok rfl
    replace h := j_popI_inv h
    obtain ⟨x1, S1, eS, h⟩ := h
    subst eS
    have htok2 : j.val < j_ml mi := of_decide_eq_true htok
    obtain ⟨rfl, rfl, rfl, rfl⟩ := j_jp_inv h
    subst e
    exact ⟨j_store hcode rfl hk (fun hx hb hdg hL k => lv_istore_n hx hb hdg rfl hL.has htok2 rfl (fun ls' hl' => k ls' (j_LH.set (v := .int x1) hl'))), Nat.le_refl _, Nat.le_refl _⟩
  case astore j =>
    have e := j_ln (k := 1) hlok rfl
    have htok2 : j < j_ml mi := of_decide_eq_true htok
    replace h := j_popA_inv h
    obtain ⟨v, S1, eS, h, hv⟩ := h
    subst eS
    obtain ⟨rfl, rfl, rfl, rfl⟩ := j_jp_inv h
    subst e
    refine ⟨?_, Nat.le_refl _, Nat.le_refl _⟩
    rcases hv with rfl | ⟨x, rfl⟩
    · exact j_store hcode rfl hk (fun hx hb hdg hL k => lv_astoreN hx hb hdg hL.has htok2 rfl (fun ls' hl' => k ls' (j_LH.set (v := .null) hl')))
    · exact j_store hcode rfl hk (fun hx hb hdg hL k => lv_astore hx hb hdg hL.has htok2 rfl (fun ls' hl' => k ls' (j_LH.set (v := .ref x) hl')))
  case astore_n j =>
    have e := j_ln (k := 0) hlok rfl
    have htok2 : j.val < j_ml mi := of_decide_eq_true htok
    replace h := j_popA_inv h
    obtain ⟨v, S1, eS, h, hv⟩ := h
    subst eS
    obtain ⟨rfl, rfl, rfl, rfl⟩ := j_jp_inv h
    subst e
    refine ⟨?_, Nat.le_refl _, Nat.le_refl _⟩
    rcases hv with rfl | ⟨x, rfl⟩
    · exact j_store hcode rfl hk (fun hx hb hdg hL k => lv_astore_nN hx hb hdg rfl hL.has htok2 rfl (fun ls' hl' => k ls' (j_LH.set (v := .null) hl')))
    · exact j_store hcode rfl hk (fun hx hb hdg hL k => lv_astore_n hx hb hdg rfl hL.has htok2 rfl (fun ls' hl' => k ls' (j_LH.set (v := .ref x) hl')))
  case iinc j c =>
    have e := j_ln (k := 2) hlok rfl
    have htok2 : j < j_ml mi := of_decide_eq_true htok
    obtain ⟨x, hg, h⟩ := j_inc_inv h
    obtain ⟨rfl, rfl, rfl, rfl⟩ := j_jp_inv h
    subst e
    refine ⟨j_store hcode rfl hk (fun hx hb hdg hL k => ?_), Nat.le_refl _, Nat.le_refl _⟩
    obtain ⟨kk, hkk⟩ := j_lvmem (G := G) hg
    exact lv_iinc hx hb hdg hL.has hkk rfl htok2 rfl (fun ls' hl' => k ls' (j_LH.set (v := .int (x + Int32.ofInt c)) hl'))
  case iconst c =>
    have e := j_ln (k := 0) hlok rfl
    obtain ⟨rfl, rfl, rfl, rfl⟩ := j_jp_inv h
    subst e
    exact ⟨j_simple hcode rfl hk (fun hx hb hdg hL k => lv_iconst hx hb hdg rfl k), Nat.le_refl _, Nat.le_refl _⟩
  case bipush c =>
    have e := j_ln (k := 1) hlok rfl
    obtain ⟨rfl, rfl, rfl, rfl⟩ := j_jp_inv h
    subst e
    exact ⟨j_simple hcode rfl hk (fun hx hb hdg hL k => lv_bipush hx hb hdg rfl k), Nat.le_refl _, Nat.le_refl _⟩
  case sipush c =>
    have e := j_ln (k := 2) hlok rfl
    obtain ⟨rfl, rfl, rfl, rfl⟩ := j_jp_inv h
    subst e
    exact ⟨j_simple hcode rfl hk (fun hx hb hdg hL k => lv_sipush hx hb hdg rfl k), Nat.le_refl _, Nat.le_refl _⟩
  case lconst c =>
    have e := j_ln (k := 0) hlok rfl
    obtain ⟨rfl, rfl, rfl, rfl⟩ := j_jp_inv h
    subst e
    exact ⟨j_simple hcode rfl hk (fun hx hb hdg hL k => lv_lconst hx hb hdg rfl k), Nat.le_refl _, Nat.le_refl _⟩
  case aconst_null =>
    have e := j_ln (k := 0) hlok rfl
    obtain ⟨rfl, rfl, rfl, rfl⟩ := j_jp_inv h
    subst e
    exact ⟨j_simple hcode rfl hk (fun hx hb hdg hL k => lv_null hx hb hdg k), Nat.le_refl _, Nat.le_refl _⟩
  case iadd =>
    have e := j_ln (k := 0) hlok rfl
    replace h := j_popI_inv h
    obtain ⟨x1, S1, eS, h⟩ := h
    subst eS
    replace h := j_popI_inv h
    obtain ⟨x2, S2, eS, h⟩ := h
    subst eS
    obtain ⟨rfl, rfl, rfl, rfl⟩ := j_jp_inv h
    subst e
    exact ⟨j_simple hcode rfl hk (fun hx hb hdg hL k => lv_iadd hx hb hdg k), Nat.le_refl _, Nat.le_refl _⟩
  case isub =>
    have e := j_ln (k := 0) hlok rfl
    replace h := j_popI_inv h
    obtain ⟨x1, S1, eS, h⟩ := h
    subst eS
    replace h := j_popI_inv h
    obtain ⟨x2, S2, eS, h⟩ := h
    subst eS
    obtain ⟨rfl, rfl, rfl, rfl⟩ := j_jp_inv h
    subst e
    exact ⟨j_simple hcode rfl hk (fun hx hb hdg hL k => lv_isub hx hb hdg k), Nat.le_refl _, Nat.le_refl _⟩
  case imul =>
    have e := j_ln (k := 0) hlok rfl
    replace h := j_popI_inv h
    obtain ⟨x1, S1, eS, h⟩ := h
    subst eS
    replace h := j_popI_inv h
    obtain ⟨x2, S2, eS, h⟩ := h
    subst eS
    obtain ⟨rfl, rfl, rfl, rfl⟩ := j_jp_inv h
    subst e
    exact ⟨j_simple hcode rfl hk (fun hx hb hdg hL k => lv_imul hx hb hdg k), Nat.le_refl _, Nat.le_refl _⟩
  case iand =>
    have e := j_ln (k := 0) hlok rfl
    replace h := j_popI_inv h
    obtain ⟨x1, S1, eS, h⟩ := h
    subst eS
    replace h := j_popI_inv h
    obtain ⟨x2, S2, eS, h⟩ := h
    subst eS
    obtain ⟨rfl, rfl, rfl, rfl⟩ := j_jp_inv h
    subst e
    exact ⟨j_simple hcode rfl hk (fun hx hb hdg hL k => lv_iand hx hb hdg k), Nat.le_refl _, Nat.le_refl _⟩
  case ior =>
    have e := j_ln (k := 0) hlok rfl
    replace h := j_popI_inv h
    obtain ⟨x1, S1, eS, h⟩ := h
    subst eS
    replace h := j_popI_inv h
    obtain ⟨x2, S2, eS, h⟩ := h
    subst eS
    obtain ⟨rfl, rfl, rfl, rfl⟩ := j_jp_inv h
    subst e
    exact ⟨j_simple hcode rfl hk (fun hx hb hdg hL k => lv_ior hx hb hdg k), Nat.le_refl _, Nat.le_refl _⟩
  case ixor =>
    have e := j_ln (k := 0) hlok rfl
    replace h := j_popI_inv h
    obtain ⟨x1, S1, eS, h⟩ := h
    subst eS
    replace h := j_popI_inv h
    obtain ⟨x2, S2, eS, h⟩ := h
    subst eS
    obtain ⟨rfl, rfl, rfl, rfl⟩ := j_jp_inv h
    subst e
    exact ⟨j_simple hcode rfl hk (fun hx hb hdg hL k => lv_ixor hx hb hdg k), Nat.le_refl _, Nat.le_refl _⟩
  case ishl =>
    have e := j_ln (k := 0) hlok rfl
    replace h := j_popI_inv h
    obtain ⟨x1, S1, eS, h⟩ := h
    subst eS
    replace h := j_popI_inv h
    obtain ⟨x2, S2, eS, h⟩ := h
    subst eS
    obtain ⟨rfl, rfl, rfl, rfl⟩ := j_jp_inv h
    subst e
    exact ⟨j_simple hcode rfl hk (fun hx hb hdg hL k => lv_ishl hx hb hdg k), Nat.le_refl _, Nat.le_refl _⟩
  case ishr =>
    have e := j_ln (k := 0) hlok rfl
    replace h := j_popI_inv h
    obtain ⟨x1, S1, eS, h⟩ := h
    subst eS
    replace h := j_popI_inv h
    obtain ⟨x2, S2, eS, h⟩ := h
    subst eS
    obtain ⟨rfl, rfl, rfl, rfl⟩ := j_jp_inv h
    subst e
    exact ⟨j_simple hcode rfl hk (fun hx hb hdg hL k => lv_ishr hx hb hdg k), Nat.le_refl _, Nat.le_refl _⟩
  case iushr =>
    have e := j_ln (k := 0) hlok rfl
    replace h := j_popI_inv h
    obtain ⟨x1, S1, eS, h⟩ := h
    subst eS
    replace h := j_popI_inv h
    obtain ⟨x2, S2, eS, h⟩ := h
    subst eS
    obtain ⟨rfl, rfl, rfl, rfl⟩ := j_jp_inv h
    subst e
    exact ⟨j_simple hcode rfl hk (fun hx hb hdg hL k => lv_iushr hx hb hdg rfl k), Nat.le_refl _, Nat.le_refl _⟩
  case idiv =>
    have e := j_ln (k := 0) hlok rfl
    replace h := j_popI_inv h
    obtain ⟨x1, S1, eS, h⟩ := h
    subst eS
    replace h := j_popI_inv h
    obtain ⟨x2, S2, eS, h⟩ := h
    subst eS
    try dsimp only at h
    split at h
    · cases h
    · rename_i hne
      obtain ⟨rfl, rfl, rfl, rfl⟩ := j_jp_inv h
      subst e
      exact ⟨j_simple hcode rfl hk (fun hx hb hdg hL k => lv_idiv hx hb hdg (fun q => hne (q.trans nI_0.symm)) k), Nat.le_refl _, Nat.le_refl _⟩
  case irem =>
    have e := j_ln (k := 0) hlok rfl
    replace h := j_popI_inv h
    obtain ⟨x1, S1, eS, h⟩ := h
    subst eS
    replace h := j_popI_inv h
    obtain ⟨x2, S2, eS, h⟩ := h
    subst eS
    try dsimp only at h
    split at h
    · cases h
    · rename_i hne
      obtain ⟨rfl, rfl, rfl, rfl⟩ := j_jp_inv h
      subst e
      exact ⟨j_simple hcode rfl hk (fun hx hb hdg hL k => lv_irem hx hb hdg (fun q => hne (q.trans nI_0.symm)) k), Nat.le_refl _, Nat.le_refl _⟩
  case ineg =>
    have e := j_ln (k := 0) hlok rfl
    replace h := j_popI_inv h
    obtain ⟨x1, S1, eS, h⟩ := h
    subst eS
    obtain ⟨rfl, rfl, rfl, rfl⟩ := j_jp_inv h
    subst e
    exact ⟨j_simple hcode rfl hk (fun hx hb hdg hL k => lv_ineg hx hb hdg k), Nat.le_refl _, Nat.le_refl _⟩
  case i2l =>
    have e := j_ln (k := 0) hlok rfl
    replace h := j_popI_inv h
    obtain ⟨x1, S1, eS, h⟩ := h
    subst eS
    obtain ⟨rfl, rfl, rfl, rfl⟩ := j_jp_inv h
    subst e
    exact ⟨j_simple hcode rfl hk (fun hx hb hdg hL k => lv_i2l hx hb hdg rfl k), Nat.le_refl _, Nat.le_refl _⟩
  case i2b =>
    have e := j_ln (k := 0) hlok rfl
    replace h := j_popI_inv h
    obtain ⟨x1, S1, eS, h⟩ := h
    subst eS
    obtain ⟨rfl, rfl, rfl, rfl⟩ := j_jp_inv h
    subst e
    exact ⟨j_simple hcode rfl hk (fun hx hb hdg hL k => lv_i2b hx hb hdg rfl k), Nat.le_refl _, Nat.le_refl _⟩
  case i2s =>
    have e := j_ln (k := 0) hlok rfl
    replace h := j_popI_inv h
    obtain ⟨x1, S1, eS, h⟩ := h
    subst eS
    obtain ⟨rfl, rfl, rfl, rfl⟩ := j_jp_inv h
    subst e
    exact ⟨j_simple hcode rfl hk (fun hx hb hdg hL k => lv_i2s hx hb hdg rfl k), Nat.le_refl _, Nat.le_refl _⟩
  case i2c =>
    have e := j_ln (k := 0) hlok rfl
    replace h := j_popI_inv h
    obtain ⟨x1, S1, eS, h⟩ := h
    subst eS
    obtain ⟨rfl, rfl, rfl, rfl⟩ := j_jp_inv h
    subst e
    exact ⟨j_simple hcode rfl hk (fun hx hb hdg hL k => lv_i2c hx hb hdg rfl k), Nat.le_refl _, Nat.le_refl _⟩
  case l2i =>
    have e := j_ln (k := 0) hlok rfl
    replace h := j_popJ_inv h
    obtain ⟨x1, S1, eS, h⟩ := h
    subst eS
    obtain ⟨rfl, rfl, rfl, rfl⟩ := j_jp_inv h
    subst e
    exact ⟨j_simple hcode rfl hk (fun hx hb hdg hL k => lv_l2i hx hb hdg rfl k), Nat.le_refl _, Nat.le_refl _⟩
  case land =>
    have e := j_ln (k := 0) hlok rfl
    replace h := j_popJ_inv h
    obtain ⟨x1, S1, eS, h⟩ := h
    subst eS
    replace h := j_popJ_inv h
    obtain ⟨x2, S2, eS, h⟩ := h
    subst eS
    obtain ⟨rfl, rfl, rfl, rfl⟩ := j_jp_inv h
    subst e
    exact ⟨j_simple hcode rfl hk (fun hx hb hdg hL k => lv_land hx hb hdg k), Nat.le_refl _, Nat.le_refl _⟩
  case lor =>
    have e := j_ln (k := 0) hlok rfl
    replace h := j_popJ_inv h
    obtain ⟨x1, S1, eS, h⟩ := h
    subst eS
    replace h := j_popJ_inv h
    obtain ⟨x2, S2, eS, h⟩ := h
    subst eS
    obtain ⟨rfl, rfl, rfl, rfl⟩ := j_jp_inv h
    subst e
    exact ⟨j_simple hcode rfl hk (fun hx hb hdg hL k => lv_lor hx hb hdg k), Nat.le_refl _, Nat.le_refl _⟩
  case lshl =>
    have e := j_ln (k := 0) hlok rfl
    replace h := j_popI_inv h
    obtain ⟨x1, S1, eS, h⟩ := h
    subst eS
    replace h := j_popJ_inv h
    obtain ⟨x2, S2, eS, h⟩ := h
    subst eS
    obtain ⟨rfl, rfl, rfl, rfl⟩ := j_jp_inv h
    subst e
    exact ⟨j_simple hcode rfl hk (fun hx hb hdg hL k => lv_lshl hx hb hdg rfl k), Nat.le_refl _, Nat.le_refl _⟩
  case lshr =>
    have e := j_ln (k := 0) hlok rfl
    replace h := j_popI_inv h
    obtain ⟨x1, S1, eS, h⟩ := h
    subst eS
    replace h := j_popJ_inv h
    obtain ⟨x2, S2, eS, h⟩ := h
    subst eS
    obtain ⟨rfl, rfl, rfl, rfl⟩ := j_jp_inv h
    subst e
    exact ⟨j_simple hcode rfl hk (fun hx hb hdg hL k => lv_lshr hx hb hdg rfl k), Nat.le_refl _, Nat.le_refl _⟩
  case lushr =>
    have e := j_ln (k := 0) hlok rfl
    replace h := j_popI_inv h
    obtain ⟨x1, S1, eS, h⟩ := h
    subst eS
    replace h := j_popJ_inv h
    obtain ⟨x2, S2, eS, h⟩ := h
    subst eS
    obtain ⟨rfl, rfl, rfl, rfl⟩ := j_jp_inv h
    subst e
    exact ⟨j_simple hcode rfl hk (fun hx hb hdg hL k => lv_lushr hx hb hdg rfl k), Nat.le_refl _, Nat.le_refl _⟩
  case lcmp =>
    have e := j_ln (k := 0) hlok rfl
    replace h := j_popJ_inv h
    obtain ⟨x1, S1, eS, h⟩ := h
    subst eS
    replace h := j_popJ_inv h
    obtain ⟨x2, S2, eS, h⟩ := h
    subst eS
    obtain ⟨rfl, rfl, rfl, rfl⟩ := j_jp_inv h
    subst e
    exact ⟨j_simple hcode rfl hk (fun hx hb hdg hL k => W.lcmp hx hb hdg k), Nat.le_refl _, Nat.le_refl _⟩
  case dup =>
    have e := j_ln (k := 0) hlok rfl
    replace h := j_pop1_inv h
    obtain ⟨v, S1, eS, h, hv⟩ := h
    subst eS
    obtain ⟨rfl, rfl, rfl, rfl⟩ := j_jp_inv h
    subst e
    exact ⟨j_simple hcode rfl hk (fun hx hb hdg hL k => lv_dup hx hb hdg (by rw [j_tr_cat]; exact hv) k), Nat.le_refl _, Nat.le_refl _⟩
  case pop =>
    have e := j_ln (k := 0) hlok rfl
    replace h := j_pop1_inv h
    obtain ⟨v, S1, eS, h, hv⟩ := h
    subst eS
    obtain ⟨rfl, rfl, rfl, rfl⟩ := j_jp_inv h
    subst e
    exact ⟨j_simple hcode rfl hk (fun hx hb hdg hL k => lv_pop hx hb hdg (by rw [j_tr_cat]; exact hv) k), Nat.le_refl _, Nat.le_refl _⟩
  case dup2 =>
    have e := j_ln (k := 0) hlok rfl
    replace h := j_pop1_inv h
    obtain ⟨v, S1, eS, h, hv⟩ := h
    subst eS
    replace h := j_pop1_inv h
    obtain ⟨w, S2, eS, h, hw⟩ := h
    subst eS
    obtain ⟨rfl, rfl, rfl, rfl⟩ := j_jp_inv h
    subst e
    exact ⟨j_simple hcode rfl hk (fun hx hb hdg hL k => lv_dup2_11 hx hb hdg (by rw [j_tr_cat]; exact hv) (by rw [j_tr_cat]; exact hw) k), Nat.le_refl _, Nat.le_refl _⟩
  case goto o =>
    have e := j_ln (k := 2) hlok rfl
    have htok2 := of_decide_eq_true htok
    obtain ⟨rfl, rfl, rfl, rfl⟩ := j_jp_inv h
    subst e
    exact ⟨j_simple hcode rfl hk (fun hx hb hdg hL k => lv_goto hx hb hdg htok2 k), Nat.le_refl _, Nat.le_refl _⟩
  case ifCond c o =>
    have e := j_ln (k := 2) hlok rfl
    have htok2 := of_decide_eq_true htok
    replace h := j_popI_inv h
    obtain ⟨x1, S1, eS, h⟩ := h
    subst eS
    try dsimp only at h
    cases c
    case eq =>
      try dsimp only at h
      split at h
      · rename_i hc
        rw [nI_0] at hc
        obtain ⟨rfl, rfl, rfl, rfl⟩ := j_jp_inv h
        subst e
        exact ⟨j_simple hcode rfl hk (fun hx hb hdg hL k => lv_if_eq hx hb hdg htok2 (fun _ => k) (fun q => absurd hc q)), Nat.le_refl _, Nat.le_refl _⟩
      · rename_i hc
        rw [nI_0] at hc
        obtain ⟨rfl, rfl, rfl, rfl⟩ := j_jp_inv h
        subst e
        exact ⟨j_simple hcode rfl hk (fun hx hb hdg hL k => lv_if_eq hx hb hdg htok2 (fun q => absurd q hc) (fun _ => k)), Nat.le_refl _, Nat.le_refl _⟩
    case ne =>
      try dsimp only at h
      split at h
      · rename_i hc
        rw [nI_0] at hc
        obtain ⟨rfl, rfl, rfl, rfl⟩ := j_jp_inv h
        subst e
        exact ⟨j_simple hcode rfl hk (fun hx hb hdg hL k => lv_if_ne hx hb hdg htok2 (fun q => absurd hc q) (fun _ => k)), Nat.le_refl _, Nat.le_refl _⟩
      · rename_i hc
        rw [nI_0] at hc
        obtain ⟨rfl, rfl, rfl, rfl⟩ := j_jp_inv h
        subst e
        exact ⟨j_simple hcode rfl hk (fun hx hb hdg hL k => lv_if_ne hx hb hdg htok2 (fun _ => k) (fun q => absurd q hc)), Nat.le_refl _, Nat.le_refl _⟩
    case lt =>
      try dsimp only at h
      split at h
      · rename_i hc
        rw [nI_0] at hc
        obtain ⟨rfl, rfl, rfl, rfl⟩ := j_jp_inv h
        subst e
        exact ⟨j_simple hcode rfl hk (fun hx hb hdg hL k => lv_if_lt hx hb hdg htok2 (fun _ => k) (fun q => absurd hc q)), Nat.le_refl _, Nat.le_refl _⟩
      · rename_i hc
        rw [nI_0] at hc
        obtain ⟨rfl, rfl, rfl, rfl⟩ := j_jp_inv h
        subst e
        exact ⟨j_simple hcode rfl hk (fun hx hb hdg hL k => lv_if_lt hx hb hdg htok2 (fun q => absurd q hc) (fun _ => k)), Nat.le_refl _, Nat.le_refl _⟩
    case ge =>
      try dsimp only at h
      split at h
      · rename_i hc
        rw [nI_0] at hc
        obtain ⟨rfl, rfl, rfl, rfl⟩ := j_jp_inv h
        subst e
        exact ⟨j_simple hcode rfl hk (fun hx hb hdg hL k => lv_if_ge hx hb hdg htok2 (fun q => absurd hc (Int32.not_lt.mpr q)) (fun _ => k)), Nat.le_refl _, Nat.le_refl _⟩
      · rename_i hc
        rw [nI_0] at hc
        obtain ⟨rfl, rfl, rfl, rfl⟩ := j_jp_inv h
        subst e
        exact ⟨j_simple hcode rfl hk (fun hx hb hdg hL k => lv_if_ge hx hb hdg htok2 (fun _ => k) (fun q => absurd (Int32.not_lt.mp hc) q)), Nat.le_refl _, Nat.le_refl _⟩
    case gt =>
      try dsimp only at h
      split at h
      · rename_i hc
        rw [nI_0] at hc
        obtain ⟨rfl, rfl, rfl, rfl⟩ := j_jp_inv h
        subst e
        exact ⟨j_simple hcode rfl hk (fun hx hb hdg hL k => lv_if_gt hx hb hdg htok2 (fun _ => k) (fun q => absurd hc q)), Nat.le_refl _, Nat.le_refl _⟩
      · rename_i hc
        rw [nI_0] at hc
        obtain ⟨rfl, rfl, rfl, rfl⟩ := j_jp_inv h
        subst e
        exact ⟨j_simple hcode rfl hk (fun hx hb hdg hL k => lv_if_gt hx hb hdg htok2 (fun q => absurd q hc) (fun _ => k)), Nat.le_refl _, Nat.le_refl _⟩
    case le =>
      try dsimp only at h
      split at h
      · rename_i hc
        rw [nI_0] at hc
        obtain ⟨rfl, rfl, rfl, rfl⟩ := j_jp_inv h
        subst e
        exact ⟨j_simple hcode rfl hk (fun hx hb hdg hL k => lv_if_le hx hb hdg htok2 (fun q => absurd hc (Int32.not_lt.mpr q)) (fun _ => k)), Nat.le_refl _, Nat.le_refl _⟩
      · rename_i hc
        rw [nI_0] at hc
        obtain ⟨rfl, rfl, rfl, rfl⟩ := j_jp_inv h
        subst e
        exact ⟨j_simple hcode rfl hk (fun hx hb hdg hL k => lv_if_le hx hb hdg htok2 (fun _ => k) (fun q => absurd (Int32.not_lt.mp hc) q)), Nat.le_refl _, Nat.le_refl _⟩
  case if_icmp c o =>
    have e := j_ln (k := 2) hlok rfl
    have htok2 := of_decide_eq_true htok
    replace h := j_popI_inv h
    obtain ⟨x1, S1, eS, h⟩ := h
    subst eS
    replace h := j_popI_inv h
    obtain ⟨x2, S2, eS, h⟩ := h
    subst eS
    try dsimp only at h
    cases c
    case eq =>
      try dsimp only at h
      split at h
      · rename_i hc
        obtain ⟨rfl, rfl, rfl, rfl⟩ := j_jp_inv h
        subst e
        exact ⟨j_simple hcode rfl hk (fun hx hb hdg hL k => lv_icmp_eq hx hb hdg htok2 (fun _ => k) (fun q => absurd hc q)), Nat.le_refl _, Nat.le_refl _⟩
      · rename_i hc
        obtain ⟨rfl, rfl, rfl, rfl⟩ := j_jp_inv h
        subst e
        exact ⟨j_simple hcode rfl hk (fun hx hb hdg hL k => lv_icmp_eq hx hb hdg htok2 (fun q => absurd q hc) (fun _ => k)), Nat.le_refl _, Nat.le_refl _⟩
    case ne =>
      try dsimp only at h
      split at h
      · rename_i hc
        obtain ⟨rfl, rfl, rfl, rfl⟩ := j_jp_inv h
        subst e
        exact ⟨j_simple hcode rfl hk (fun hx hb hdg hL k => lv_icmp_ne hx hb hdg htok2 (fun q => absurd hc q) (fun _ => k)), Nat.le_refl _, Nat.le_refl _⟩
      · rename_i hc
        obtain ⟨rfl, rfl, rfl, rfl⟩ := j_jp_inv h
        subst e
        exact ⟨j_simple hcode rfl hk (fun hx hb hdg hL k => lv_icmp_ne hx hb hdg htok2 (fun _ => k) (fun q => absurd q hc)), Nat.le_refl _, Nat.le_refl _⟩
    case lt =>
      try dsimp only at h
      split at h
      · rename_i hc
        obtain ⟨rfl, rfl, rfl, rfl⟩ := j_jp_inv h
        subst e
        exact ⟨j_simple hcode rfl hk (fun hx hb hdg hL k => lv_icmp_lt hx hb hdg htok2 (fun _ => k) (fun q => absurd hc q)), Nat.le_refl _, Nat.le_refl _⟩
      · rename_i hc
        obtain ⟨rfl, rfl, rfl, rfl⟩ := j_jp_inv h
        subst e
        exact ⟨j_simple hcode rfl hk (fun hx hb hdg hL k => lv_icmp_lt hx hb hdg htok2 (fun q => absurd q hc) (fun _ => k)), Nat.le_refl _, Nat.le_refl _⟩
    case ge =>
      try dsimp only at h
      split at h
      · rename_i hc
        obtain ⟨rfl, rfl, rfl, rfl⟩ := j_jp_inv h
        subst e
        exact ⟨j_simple hcode rfl hk (fun hx hb hdg hL k => lv_icmp_ge hx hb hdg htok2 (fun q => absurd hc (Int32.not_lt.mpr q)) (fun _ => k)), Nat.le_refl _, Nat.le_refl _⟩
      · rename_i hc
        obtain ⟨rfl, rfl, rfl, rfl⟩ := j_jp_inv h
        subst e
        exact ⟨j_simple hcode rfl hk (fun hx hb hdg hL k => lv_icmp_ge hx hb hdg htok2 (fun _ => k) (fun q => absurd (Int32.not_lt.mp hc) q)), Nat.le_refl _, Nat.le_refl _⟩
    case gt =>
      try dsimp only at h
      split at h
      · rename_i hc
        obtain ⟨rfl, rfl, rfl, rfl⟩ := j_jp_inv h
        subst e
        exact ⟨j_simple hcode rfl hk (fun hx hb hdg hL k => lv_icmp_gt hx hb hdg htok2 (fun _ => k) (fun q => absurd hc q)), Nat.le_refl _, Nat.le_refl _⟩
      · rename_i hc
        obtain ⟨rfl, rfl, rfl, rfl⟩ := j_jp_inv h
        subst e
        exact ⟨j_simple hcode rfl hk (fun hx hb hdg hL k => lv_icmp_gt hx hb hdg htok2 (fun q => absurd q hc) (fun _ => k)), Nat.le_refl _, Nat.le_refl _⟩
    case le =>
      try dsimp only at h
      split at h
      · rename_i hc
        obtain ⟨rfl, rfl, rfl, rfl⟩ := j_jp_inv h
        subst e
        exact ⟨j_simple hcode rfl hk (fun hx hb hdg hL k => lv_icmp_le hx hb hdg htok2 (fun q => absurd hc (Int32.not_lt.mpr q)) (fun _ => k)), Nat.le_refl _, Nat.le_refl _⟩
      · rename_i hc
        obtain ⟨rfl, rfl, rfl, rfl⟩ := j_jp_inv h
        subst e
        exact ⟨j_simple hcode rfl hk (fun hx hb hdg hL k => lv_icmp_le hx hb hdg htok2 (fun _ => k) (fun q => absurd (Int32.not_lt.mp hc) q)), Nat.le_refl _, Nat.le_refl _⟩
  case ifnull o =>
    have e := j_ln (k := 2) hlok rfl
    have htok2 := of_decide_eq_true htok
    replace h := j_popA_inv h
    obtain ⟨v, S1, eS, h, hv⟩ := h
    subst eS
    rcases hv with rfl | ⟨x, rfl⟩
    · try dsimp only at h
      obtain ⟨rfl, rfl, rfl, rfl⟩ := j_jp_inv h
      subst e
      exact ⟨j_simple hcode rfl hk (fun hx hb hdg hL k => lv_ifnullN hx hb hdg htok2 k), Nat.le_refl _, Nat.le_refl _⟩
    · try dsimp only at h
      obtain ⟨rfl, rfl, rfl, rfl⟩ := j_jp_inv h
      subst e
      exact ⟨j_simple hcode rfl hk (fun hx hb hdg hL k => lv_ifnull hx hb hdg k), Nat.le_refl _, Nat.le_refl _⟩
  case ifnonnull o =>
    have e := j_ln (k := 2) hlok rfl
    have htok2 := of_decide_eq_true htok
    replace h := j_popA_inv h
    obtain ⟨v, S1, eS, h, hv⟩ := h
    subst eS
    rcases hv with rfl | ⟨x, rfl⟩
    · try dsimp only at h
      obtain ⟨rfl, rfl, rfl, rfl⟩ := j_jp_inv h
      subst e
      exact ⟨j_simple hcode rfl hk (fun hx hb hdg hL k => lv_ifnonnullN hx hb hdg k), Nat.le_refl _, Nat.le_refl _⟩
    · try dsimp only at h
      obtain ⟨rfl, rfl, rfl, rfl⟩ := j_jp_inv h
      subst e
      exact ⟨j_simple hcode rfl hk (fun hx hb hdg hL k => lv_ifnonnull hx hb hdg htok2 k), Nat.le_refl _, Nat.le_refl _⟩
  case lookupswitch d0 ps =>
    unfold j_tok at htok
    simp only [Bool.and_eq_true, decide_eq_true_eq] at htok
    obtain ⟨⟨⟨t1, t2⟩, t3⟩, t4⟩ := htok
    replace h := j_popI_inv h
    obtain ⟨x1, S1, eS, h⟩ := h
    subst eS
    obtain ⟨rfl, rfl, rfl, rfl⟩ := j_jp_inv h
    subst t3
    have hx0 := j_sw_lookup (x := x1) t1 ps.toList t4
    refine ⟨j_full' hcode (fun {p e R s m args below meth c mc ms cc} C hb hdg H locs ls cells slots hR hS hL h1 h2 h3 => ?_), Nat.le_refl _, Nat.le_refl _⟩
    exact lv_lookup C.1.1 hb hdg t2 rfl hx0 (hk p e R s m args below meth c mc ms C H locs ls cells slots hR hS hL h1 h2 h3)
  case tableswitch d0 lo hi os =>
    unfold j_tok at htok
    simp only [Bool.and_eq_true, decide_eq_true_eq] at htok
    obtain ⟨⟨⟨t1, t2⟩, t3⟩, t4⟩ := htok
    replace h := j_popI_inv h
    obtain ⟨x1, S1, eS, h⟩ := h
    subst eS
    obtain ⟨rfl, rfl, rfl, rfl⟩ := j_jp_inv h
    subst t2
    refine ⟨j_full' hcode (fun {p e R s m args below meth c mc ms cc} C hb hdg H locs ls cells slots hR hS hL h1 h2 h3 => ?_), Nat.le_refl _, Nat.le_refl _⟩
    have hW := hk p e R s m args below meth c mc ms C H locs ls cells slots hR hS hL h1 h2 h3
    have hg : ∀ i : Nat, i < os.size → 0 ≤ (pc : Int) + os.toList.getD i 0 := by
      intro i hi
      have h9 := List.all_eq_true.mp t4 (os.toList.getD i 0) (by rw [List.getD_eq_getElem?_getD, List.getElem?_eq_getElem (by simpa using hi)]; exact List.getElem_mem _)
      exact of_decide_eq_true h9
    rcases j_sw_table (pc := pc) (x := x1) (t := t) (lo := lo) os.toList 0 os.size (fun i hi => by rw [Int32.toInt_ofInt_of_le (by omega) (by omega)]) (fun i _ hi => hg i (by omega)) with ⟨c1, c2⟩ | ⟨i, c1, c2, c3, c4⟩
    · rw [List.range_eq_range', c2] at hW
      exact lv_tableOut C.1.1 hb hdg (by omega) t1 hW
    · rw [List.range_eq_range'] at hW
      refine lv_tableIn (off := os.toList.getD i 0) C.1.1 hb hdg (by omega) (by omega) ?_ c4.symm hW
      rw [show (x1.toInt - lo).toNat = i by omega, List.getD_eq_getElem?_getD]
      have hi : i < os.size := by omega
      rw [Array.getElem?_eq_getElem hi, List.getElem?_eq_getElem (by simpa using hi)]
      simp
  case ldc k =>
    have e := j_ln (k := 1) hlok rfl
    try dsimp only at h
    split at h
    · rename_i v hv
      obtain ⟨rfl, rfl, rfl, rfl⟩ := j_jp_inv h
      subst e
      have f1 := j_kok _ (j_lk2_mem hv)
      exact ⟨j_full hcode rfl (fun {p e R s m args below meth c mc ms cc} C hb hdg H locs ls cells slots hR hS hL h1 h2 h3 => lv_ldc (own := j_on (j_own mi)) C.1.1 hb C.2.1.1 (j_W_at C.2.1.2.1 f1 rfl) hdg (hk p e R s m args below meth c mc ms C H locs ls cells slots hR hS hL h1 h2 h3)), Nat.le_refl _, Nat.le_refl _⟩
    · cases h
  case ldc_w k =>
    have e := j_ln (k := 2) hlok rfl
    try dsimp only at h
    split at h
    · rename_i v hv
      obtain ⟨rfl, rfl, rfl, rfl⟩ := j_jp_inv h
      subst e
      have f1 := j_kok _ (j_lk2_mem hv)
      exact ⟨j_full hcode rfl (fun {p e R s m args below meth c mc ms cc} C hb hdg H locs ls cells slots hR hS hL h1 h2 h3 => lv_ldcw (own := j_on (j_own mi)) C.1.1 hb C.2.1.1 (j_W_at C.2.1.2.1 f1 rfl) hdg (hk p e R s m args below meth c mc ms C H locs ls cells slots hR hS hL h1 h2 h3)), Nat.le_refl _, Nat.le_refl _⟩
    · cases h
  case ldc2_w k =>
    have e := j_ln (k := 2) hlok rfl
    try dsimp only at h
    split at h
    · rename_i v hv
      obtain ⟨rfl, rfl, rfl, rfl⟩ := j_jp_inv h
      subst e
      have f1 := j_lok _ (j_lk2_mem hv)
      exact ⟨j_full hcode rfl (fun {p e R s m args below meth c mc ms cc} C hb hdg H locs ls cells slots hR hS hL h1 h2 h3 => lv_ldc2 (own := j_on (j_own mi)) C.1.1 hb C.2.1.1 (j_W_at C.2.1.2.1 f1 rfl) hdg (hk p e R s m args below meth c mc ms C H locs ls cells slots hR hS hL h1 h2 h3)), Nat.le_refl _, Nat.le_refl _⟩
    · cases h
  case getfield k =>
    have e := j_ln (k := 2) hlok rfl
    try dsimp only at h
    split at h
    · rename_i ci s0 hf
      replace h := j_popR_inv h
      obtain ⟨x1, S1, eS, h⟩ := h
      subst eS
      obtain ⟨hc, h⟩ := j_if_inv h
      obtain ⟨rfl, rfl, rfl, rfl⟩ := j_jp_inv h
      exact ⟨j_r_getf hcode e hf hc hk, Nat.le_refl _, Nat.le_refl _⟩
    · cases h
  case putfield k =>
    have e := j_ln (k := 2) hlok rfl
    try dsimp only at h
    split at h
    · rename_i ci s0 hf
      obtain ⟨⟨f1, f2⟩, -⟩ := j_fok _ (j_lk2_mem hf)
      have hS0 := j_fSok ci f1 s0 f2
      unfold j_fS at hS0
      unfold j_putf at h
      split at h
      · rename_i hkd
        replace h := j_popR_inv h
        obtain ⟨v, S1, eS, h⟩ := h
        subst eS
        replace h := j_popR_inv h
        obtain ⟨o, S2, eS, h⟩ := h
        subst eS
        obtain ⟨hc, h⟩ := j_if_inv h
        obtain ⟨rfl, rfl, rfl, rfl⟩ := j_jp_inv h
        exact ⟨j_r_putF hcode e hf hc.1 hkd hc.2.1 hc.2.2 hk, Nat.le_refl _, Nat.le_refl _⟩
      · rename_i hkd
        rw [hkd] at hS0
        replace h := j_popR_inv h
        obtain ⟨v, S1, eS, h⟩ := h
        subst eS
        replace h := j_popR_inv h
        obtain ⟨o, S2, eS, h⟩ := h
        subst eS
        obtain ⟨hc, h⟩ := j_if_inv h
        obtain ⟨rfl, rfl, rfl, rfl⟩ := j_jp_inv h
        refine ⟨j_r_put (v := .ref v) hcode e hf hc.1 hS0.2.1 (j_isR_narrow hS0.2.2 _) ?_ hk, Nat.le_refl _, Nat.le_refl _⟩
        exact j_gp2 hkd hc.2.1 hc.2.2
      · rename_i hkd
        rw [hkd] at hS0
        replace h := j_popI_inv h
        obtain ⟨v, S1, eS, h⟩ := h
        subst eS
        replace h := j_popR_inv h
        obtain ⟨o, S2, eS, h⟩ := h
        subst eS
        obtain ⟨hc, h⟩ := j_if_inv h
        obtain ⟨rfl, rfl, rfl, rfl⟩ := j_jp_inv h
        refine ⟨j_r_put (v := .int v) hcode e hf hc.1 hS0.2.1 ?_ ?_ hk, Nat.le_refl _, Nat.le_refl _⟩
        · rw [hS0.2.2]
          rcases hc.2 with rfl | rfl
          · exact (show narrow .boolean (.int (nI 0)) = .int (nI 0) ∧ fits .boolean (.int (nI 0)) = true from ⟨by decide, by decide⟩)
          · exact (show narrow .boolean (.int (nI 1)) = .int (nI 1) ∧ fits .boolean (.int (nI 1)) = true from ⟨by decide, by decide⟩)
        · exact j_gp0 (by omega) (by omega)
      · rename_i g1 g2 g3
        have hS1 : (j_T ci s0).2.2.2 = false ∧ j_ty ci s0 = .int := by
          have h9 := hS0.2
          split at h9
          · exact absurd ‹_› g1
          · exact absurd ‹_› g2
          · exact absurd ‹_› g3
          · exact h9
        replace h := j_popI_inv h
        obtain ⟨v, S1, eS, h⟩ := h
        subst eS
        replace h := j_popR_inv h
        obtain ⟨o, S2, eS, h⟩ := h
        subst eS
        obtain ⟨hc, h⟩ := j_if_inv h
        obtain ⟨rfl, rfl, rfl, rfl⟩ := j_jp_inv h
        refine ⟨j_r_put (v := .int v) hcode e hf hc hS1.1 ?_ ?_ hk, Nat.le_refl _, Nat.le_refl _⟩
        · rw [hS1.2]; exact ⟨rfl, rfl⟩
        · exact j_gp0 g1 g2
    · cases h
  case getstatic k =>
    have e := j_ln (k := 2) hlok rfl
    try dsimp only at h
    split at h
    · rename_i id hf
      obtain ⟨rfl, rfl, rfl, rfl⟩ := j_jp_inv h
      exact ⟨j_r_gets hcode e hf hk, Nat.le_refl _, Nat.le_refl _⟩
    · cases h
  case iaload =>
    have e := j_ln (k := 0) hlok rfl
    replace h := j_popI_inv h
    obtain ⟨i, S1, eS, h⟩ := h
    subst eS
    replace h := j_popR_inv h
    obtain ⟨a, S2, eS, h⟩ := h
    subst eS
    obtain ⟨hc, h⟩ := j_if_inv h
    obtain ⟨rfl, rfl, rfl, rfl⟩ := j_jp_inv h
    exact ⟨j_r_iaload hcode e hc.1 hc.2 hk, Nat.le_refl _, Nat.le_refl _⟩
  case iastore =>
    have e := j_ln (k := 0) hlok rfl
    replace h := j_popI_inv h
    obtain ⟨v, S0, eS, h⟩ := h
    subst eS
    replace h := j_popI_inv h
    obtain ⟨i, S1, eS, h⟩ := h
    subst eS
    replace h := j_popR_inv h
    obtain ⟨a, S2, eS, h⟩ := h
    subst eS
    obtain ⟨hc, h⟩ := j_if_inv h
    obtain ⟨rfl, rfl, rfl, rfl⟩ := j_jp_inv h
    exact ⟨j_r_iastore hcode e hc.1 hc.2 hk, Nat.le_refl _, Nat.le_refl _⟩
  case aaload =>
    have e := j_ln (k := 0) hlok rfl
    replace h := j_popI_inv h
    obtain ⟨i, S1, eS, h⟩ := h
    subst eS
    replace h := j_popR_inv h
    obtain ⟨a, S2, eS, h⟩ := h
    subst eS
    obtain ⟨hc, h⟩ := j_if_inv h
    obtain ⟨rfl, rfl, rfl, rfl⟩ := j_jp_inv h
    exact ⟨j_r_aaload hcode e hc.1 hc.2 hk, Nat.le_refl _, Nat.le_refl _⟩
  case aastore =>
    have e := j_ln (k := 0) hlok rfl
    replace h := j_popR_inv h
    obtain ⟨v, S0, eS, h⟩ := h
    subst eS
    replace h := j_popI_inv h
    obtain ⟨i, S1, eS, h⟩ := h
    subst eS
    replace h := j_popR_inv h
    obtain ⟨a, S2, eS, h⟩ := h
    subst eS
    obtain ⟨hc, h⟩ := j_if_inv h
    obtain ⟨rfl, rfl, rfl, rfl⟩ := j_jp_inv h
    exact ⟨j_r_aastore hcode e hc.1.1 hc.1.2 hc.2 hk, Nat.le_refl _, Nat.le_refl _⟩
  case arraylength =>
    have e := j_ln (k := 0) hlok rfl
    replace h := j_popR_inv h
    obtain ⟨a, S2, eS, h⟩ := h
    subst eS
    obtain ⟨hc, h⟩ := j_if_inv h
    obtain ⟨rfl, rfl, rfl, rfl⟩ := j_jp_inv h
    exact ⟨j_r_alen hcode e hc hk, Nat.le_refl _, Nat.le_refl _⟩
  case new k =>
    have e := j_ln (k := 2) hlok rfl
    try dsimp only at h
    split at h
    · rename_i ci hf
      obtain ⟨hc, h⟩ := j_if_inv h
      obtain ⟨rfl, rfl, rfl, rfl⟩ := j_jp_inv h
      exact ⟨j_r_new hcode e hf hc hm hk, Nat.le_succ _, Nat.le_add_right _ _⟩
    · cases h
  case newarray a =>
    have e := j_ln (k := 1) hlok rfl
    cases a
    case int =>
      replace h := j_popI_inv h
      obtain ⟨x, S1, eS, h⟩ := h
      subst eS
      obtain ⟨hc, h⟩ := j_if_inv h
      obtain ⟨rfl, rfl, rfl, rfl⟩ := j_jp_inv h
      exact ⟨j_r_newa hcode e hc.1 hc.2 hm hk, Nat.le_succ _, Nat.le_add_right _ _⟩
    all_goals cases h
  case anewarray k =>
    have e := j_ln (k := 2) hlok rfl
    replace h := j_popI_inv h
    obtain ⟨x, S1, eS, h⟩ := h
    subst eS
    obtain ⟨hc, h⟩ := j_if_inv h
    obtain ⟨rfl, rfl, rfl, rfl⟩ := j_jp_inv h
    exact ⟨j_r_anewa hcode e (by rw [hc.1.2.1, hc.1.2.2]; exact j_anok) hc.1.1 hc.2 hm hk, Nat.le_succ _, Nat.le_add_right _ _⟩
  case invokevirtual k =>
    have e := j_ln (k := 2) hlok rfl
    exact j_jump_invokevirtual hNM hcode e h hm hk
  case invokespecial k =>
    have e := j_ln (k := 2) hlok rfl
    exact j_jump_invokespecial hNM hcode e h hm hk
  case invokestatic k =>
    have e := j_ln (k := 2) hlok rfl
    exact j_jump_invokestatic hNM hcode e h hm hk
  case ireturn =>
    exfalso
    try dsimp only at h
    unfold j_end at h
    repeat' (first | (cases h; done) | split at h)
  case areturn =>
    exfalso
    try dsimp only at h
    unfold j_end at h
    repeat' (first | (cases h; done) | split at h)
  case return_ =>
    exfalso
    try dsimp only at h
    unfold j_end at h
    repeat' (first | (cases h; done) | split at h)
  all_goals (first | (cases h; done) | (exfalso; dsimp only at h; cases h; done))
theorem j_end_inv {r r' : Option Value} {σ σ' : j_St} (h : j_end r σ = some (.inr (.inr (r', σ')))) : r' = r ∧ σ' = σ := by
  unfold j_end at h
  cases h
  exact ⟨rfl, rfl⟩
theorem j_cal_inv {c n c' n' : Nat} {L L' : j_L} {S S' as as' : List Value} {σ σ' : j_St} (h : j_cal c n L S as σ = some (.inr (.inl (c', as', σ', n', L', S')))) : (c' = c ∧ as' = as ∧ σ' = σ ∧ n' = n ∧ L' = L ∧ S' = S) ∧ j_fit (j_ml c) as = true ∧ j_sm S = true := by
  unfold j_cal at h
  split at h
  · rename_i hc
    cases h
    exact ⟨⟨rfl, rfl, rfl, rfl, rfl, rfl⟩, hc⟩
  · cases h

