/-! The JDK's indexOf over the class's two constants of text. -/
variable {l : Launch} {G : j_G} {sz : Nat}
def jd_K (G : j_G) (sz : Nat) (U : State) : Prop := (vk_S 2 [3, 3] [[118, 108, 100], [118, 107, 116]] (fun i => G.2.2.2.2 (1010 + i)) (fun i => G.2.2.2.2 (1020 + i)) (fun _ => False) U U.heap ∧ va_Z "java/lang/String" "COMPACT_STRINGS" "Z" (.int 1) (fun _ => False) U U.heap) ∧ U.heap.size = sz
def jd_ws (y : MethodName) (b : ByteArray) (ml : Nat) (rt : Option FieldType) : List Cond := Cond.code y b ml rt :: j_W
def jd_rm (f : Nat) : Room := { frames := f, cells := 0, slots := 0, locals := 40 * f }
def jd_M (l : Launch) (G : j_G) (sz : Nat) (y : MethodName) (b : ByteArray) (ml : Nat) (rt : Option FieldType) (f : Nat) (as : List Value) (v : Int32) : Prop := Met l y (jd_ws y b ml rt) (jd_rm f) (va_Pc as (jd_K G sz)) (va_Qi (fun r (_ : Unit) => r = v) (fun _ t => t.heap.size = sz) (fun _ => False)) 0 0 (fun _ => False)
theorem jd_blind (as : List Value) : FrameBlind (va_Pc as (jd_K G sz)) := fun _ U _ _ q => ⟨q.1, ⟨⟨q.2.1.1.moved (Vm.Alike.refl U.vm), q.2.1.2.moved (Vm.Alike.refl U.vm)⟩, q.2.2⟩⟩
theorem jd_pre {s U : State} {H : Heap} {locs : List Loc} {sz0 : Nat} (hK : jd_K G sz0 s) (hS : va_S (fun _ => False) s.heap H locs) (hz : H.size = sz) (hU : U.heap = H) (hW : s.WarmedH U.vm) : jd_K G sz U := by
  subst hU
  exact ⟨⟨(hK.1.1.kept hS.2.1).moved hW.alike, (hK.1.2.kept hS.2.1).moved hW.alike⟩, hz⟩
theorem jd_good {y : MethodName} {b : ByteArray} {ml : Nat} {rt : Option FieldType} (hc : Cond.code y b ml rt ∈ lw_tbl) : GoodIn j_W (jd_ws y b ml rt) := by
  intro w hw
  rcases List.mem_cons.mp hw with rfl | hw
  · exact j_good hc rfl
  · exact j_goodW hw
section JD
variable {p : Program} {e : Env} {R : Room} {s : State} {m : MethodId} {args : Array Value} {below : List Frame} {meth : Method} {c : Code} {H : Heap} {locs : List Loc} {cells slots : Nat} {Q : State → Prop}
theorem jd_callS {cc : ByteArray} {own : String} {nL idx pc ml f sz0 : Nat} {ls : Array Slot} {rest as : List Value} {y : MethodName} {b : ByteArray} {rt : Option FieldType} {v : Int32} (C : CallFix p m c cc nL s args j_W own) (hL : ls.size = nL) (hM : jd_M l G sz y b ml rt f as v) (hk : Cond.methodLink own idx y ∈ lw_tbl) (hst : Cond.static y ∈ lw_tbl) (hin : Cond.initialized y.cls ∈ lw_tbl) (hc : Cond.code y b ml rt ∈ lw_tbl) (hd : y.cls ≠ "java/lang/invoke/MethodHandle" ∧ y.cls ≠ "java/lang/invoke/VarHandle" ∧ (parseMethodDescriptor y.desc).map (fun d => d.parameters.length) = some as.length) (hR : f + 1 ≤ R.frames ∧ 8 + (ml + 11) + 40 * f ≤ R.locals)
    (hK : jd_K G sz0 s) (hS : va_S (fun _ => False) s.heap H locs) (hz : H.size = sz) (hr : (rest.map fun v => v.category).sum ≤ 8) (hcl : cells ≤ R.cells ∧ slots ≤ R.slots) (hdg : decode cc pc = .ok (.invokestatic idx, 3))
    (kk : ∀ (H1 : Heap) (locs1 : List Loc), va_S (fun _ => False) s.heap H1 locs1 → H1.size = sz → W p l e R s m args below meth c H1 locs1 cells slots Q (F0 m (pc + 3) ls (.int v :: rest))) : W p l e R s m args below meth c H locs cells slots Q (F0 m pc ls (as.reverse ++ rest)) := by
  have hg : GoodIn j_W (va_wsS own idx y (jd_ws y b ml rt)) := by
    intro w hw
    unfold va_wsS at hw
    rcases List.mem_append.mp hw with hw | hw
    · simp only [List.mem_cons, List.not_mem_nil, or_false] at hw
      rcases hw with rfl | rfl | rfl
      · exact j_good hk rfl
      · exact j_good hst rfl
      · exact j_good hin rfl
    · exact jd_good hc w hw
  refine va_calli (va_runS (As := as) (Ts := j_W) (own := own) C hM (va_cwS as.length C.2.2.2.2 hg rfl rfl rfl hd hR) ⟨jd_blind as, fun U hU hW => ⟨rfl, jd_pre hK hS hz hU hW⟩⟩ rfl rfl hL rfl (lv_room hr) hdg hcl) hS (fun q _ h => h) (fun q h => h) (fun r u t H1 locs1 ht ha hr' hB _ _ hS1 => ?_)
  subst hr'
  exact kk H1 locs1 hS1 (by rw [← ht]; exact hB)
theorem jd_callV {cc : ByteArray} {own : String} {nL idx pc ml f sz0 i : Nat} {ls : Array Slot} {rest as : List Value} {y : MethodName} {b : ByteArray} {rt : Option FieldType} {v : Int32} (C : CallFix p m c cc nL s args j_W own) (hL : ls.size = nL) (hi : i < 2) (hM : jd_M l G sz y b ml rt f (.ref (G.2.2.2.2 (1010 + i)) :: as) v) (hk : Cond.methodLink own idx y ∈ lw_tbl) (hst : Cond.instanceMethod y ∈ lw_tbl) (hse : Cond.selects "java/lang/String" y y ∈ lw_tbl) (hc : Cond.code y b ml rt ∈ lw_tbl) (hd : y.cls = "java/lang/String" ∧ y.cls ≠ "java/lang/invoke/MethodHandle" ∧ y.cls ≠ "java/lang/invoke/VarHandle" ∧ (parseMethodDescriptor y.desc).map (fun d => d.parameters.length) = some as.length) (hR : f + 1 ≤ R.frames ∧ 8 + (ml + 11) + 40 * f ≤ R.locals)
    (hK : jd_K G sz0 s) (hS : va_S (fun _ => False) s.heap H locs) (hz : H.size = sz) (hr : (rest.map fun v => v.category).sum ≤ 8) (hcl : cells ≤ R.cells ∧ slots ≤ R.slots) (hdg : decode cc pc = .ok (.invokevirtual idx, 3))
    (kk : ∀ (H1 : Heap) (locs1 : List Loc), va_S (fun _ => False) s.heap H1 locs1 → H1.size = sz → W p l e R s m args below meth c H1 locs1 cells slots Q (F0 m (pc + 3) ls (.int v :: rest))) : W p l e R s m args below meth c H locs cells slots Q (F0 m pc ls (as.reverse ++ .ref (G.2.2.2.2 (1010 + i)) :: rest)) := by
  have hg : GoodIn j_W (wsV own idx "java/lang/String" y (jd_ws y b ml rt)) := by
    intro w hw
    unfold wsV at hw
    rcases List.mem_append.mp hw with hw | hw
    · simp only [List.mem_cons, List.not_mem_nil, or_false] at hw
      rcases hw with rfl | rfl | rfl | rfl
      · exact j_good hk rfl
      · exact j_good hst rfl
      · exact j_good hse rfl
      · exact j_good (List.mem_of_getElem? (i := 68) (by decide +kernel)) rfl
    · exact jd_good hc w hw
  refine va_calli (va_runV (As := as) (Ts := j_W) (own := own) (C := "java/lang/String") (b := G.2.2.2.2 (1010 + i)) C hM (cwV as.length C.2.2.2.2 hg rfl rfl rfl hd hR) ⟨jd_blind _, vk_recv (adK := fun i => G.2.2.2.2 (1010 + i)) (i := i) hK.1.1 hi hS, fun U hU hW => ⟨rfl, jd_pre hK hS hz hU hW⟩⟩ rfl rfl hL rfl (lv_room hr) hdg hcl) hS (fun q _ h => h) (fun q h => h) (fun r u t H1 locs1 ht ha hr' hB _ _ hS1 => ?_)
  subst hr'
  exact kk H1 locs1 hS1 (by rw [← ht]; exact hB)
end JD
def jd_b (i k : Nat) : Int32 := ([[118, 108, 100], [118, 107, 116]].getD i []).getD k 0
def jd_ix (i j : Nat) : Int32 := if jd_b i 0 = (nI j).toInt8.toInt32 then nI 0 else if jd_b i 1 = (nI j).toInt8.toInt32 then nI 1 else if jd_b i 2 = (nI j).toInt8.toInt32 then nI 2 else -1
def jd_iy (i j : Nat) : Int32 := if (255 : Int32) < nI j then -1 else jd_ix i j
theorem jd_3 {i : Nat} (hi : i < 2) : [3, 3].getD i 0 = 3 := by
  have : i = 0 ∨ i = 1 := by omega
  rcases this with q | q <;> subst q <;> rfl
theorem jd_coder {i : Nat} (hi : i < 2) : jd_M l G sz (⟨"java/lang/String", "coder", "()B"⟩ : MethodName) prog_14_method_152_code 1 (some .byte) 0 [.ref (G.2.2.2.2 (1010 + i))] (nI 0) := by
  refine Met.ofW (cc := prog_14_method_152_code) (maxL := 1) (ret := some .byte) (by decide) rfl ?_
  intro p e s m args below meth c s₁ B hml hv
  obtain ⟨rfl, hK⟩ := hv
  have hz := hK.2
  have hE := hK.1.1
  have hx := B.exec
  have hb := B.bytes
  have hr := B.returns
  have hts : ∀ w ∈ j_W, w.before ([.ref (G.2.2.2.2 (1010 + i))] : List Value).toArray s = true := fun w hw => atoms_spec (ws := jd_ws (⟨"java/lang/String", "coder", "()B"⟩ : MethodName) prog_14_method_152_code 1 (some .byte)) B.pre w (List.mem_cons_of_mem _ hw)
  have hown : s.vm.findClass "java/lang/String" = some m.cls := findClass_of_methodNamed B.named
  have hlocks := B.notSynchronized
  have hS : va_S (fun _ => False) s.heap s.heap [] := va_S.rf
  have hC : CallFix p m c prog_14_method_152_code 1 s ([.ref (G.2.2.2.2 (1010 + i))] : List Value).toArray j_W "java/lang/String" := ⟨hx, hb, hml, hown, hts⟩
  have hl := lv_entry ([.ref (G.2.2.2.2 (1010 + i))]) (n := 1) (Nat.le_of_ble_eq_true rfl)
  rw [lg_entry_eq]
  generalize (lg_sl ([.ref (G.2.2.2.2 (1010 + i))]) ++ List.replicate (1 - (lg_sl ([.ref (G.2.2.2.2 (1010 + i))])).length) Slot.unset).toArray = ls at hl ⊢
  have hl : lv_has ls 1 [(0, .ref (G.2.2.2.2 (1010 + i)))] := hl
  refine va_gets hx hb hK.1.2 hS hown (j_W_at hts (List.mem_of_getElem? (i := 507) (by decide +kernel)) rfl) (fun x h => h) (by decide +kernel : decode prog_14_method_152_code 0 = .ok (.getstatic 38, 3)) ?_
  refine lv_if_eq hx hb (by decide +kernel : decode prog_14_method_152_code 3 = .ok (.ifCond .eq 10, 3)) (tgt := 13) rfl (fun h => absurd h (by decide)) (fun _ => ?_)
  refine lv_aload_n hx hb (by decide +kernel : decode prog_14_method_152_code 6 = .ok (.aload_n 0, 1)) rfl (lv_at hl 0 rfl) ?_
  refine vk_getf hx hb (hE.1 i hi).2.1 hS hown (j_W_at hts (List.mem_of_getElem? (i := 1382) (by decide +kernel)) rfl) (fun x h => h) (by decide +kernel : decode prog_14_method_152_code 7 = .ok (.getfield 15, 3)) ?_
  refine lv_goto hx hb (by decide +kernel : decode prog_14_method_152_code 10 = .ok (.goto 4, 3)) (tgt := 14) rfl ?_
  exact W.zret (v := 0) hx hb hr (by decide +kernel) (fun t ht hW => ⟨⟨_, (), rfl, rfl, (congrArg Array.size ht).trans hz⟩, hS.F ht⟩) hS.2.2 (by decide +kernel : decode prog_14_method_152_code 14 = .ok (.ireturn, 1))
theorem jd_isLatin1 {i : Nat} (hi : i < 2) : jd_M l G sz (⟨"java/lang/String", "isLatin1", "()Z"⟩ : MethodName) prog_14_method_154_code 1 (some .boolean) 0 [.ref (G.2.2.2.2 (1010 + i))] (nI 1) := by
  refine Met.ofW (cc := prog_14_method_154_code) (maxL := 1) (ret := some .boolean) (by decide) rfl ?_
  intro p e s m args below meth c s₁ B hml hv
  obtain ⟨rfl, hK⟩ := hv
  have hz := hK.2
  have hE := hK.1.1
  have hx := B.exec
  have hb := B.bytes
  have hr := B.returns
  have hts : ∀ w ∈ j_W, w.before ([.ref (G.2.2.2.2 (1010 + i))] : List Value).toArray s = true := fun w hw => atoms_spec (ws := jd_ws (⟨"java/lang/String", "isLatin1", "()Z"⟩ : MethodName) prog_14_method_154_code 1 (some .boolean)) B.pre w (List.mem_cons_of_mem _ hw)
  have hown : s.vm.findClass "java/lang/String" = some m.cls := findClass_of_methodNamed B.named
  have hlocks := B.notSynchronized
  have hS : va_S (fun _ => False) s.heap s.heap [] := va_S.rf
  have hC : CallFix p m c prog_14_method_154_code 1 s ([.ref (G.2.2.2.2 (1010 + i))] : List Value).toArray j_W "java/lang/String" := ⟨hx, hb, hml, hown, hts⟩
  have hl := lv_entry ([.ref (G.2.2.2.2 (1010 + i))]) (n := 1) (Nat.le_of_ble_eq_true rfl)
  rw [lg_entry_eq]
  generalize (lg_sl ([.ref (G.2.2.2.2 (1010 + i))]) ++ List.replicate (1 - (lg_sl ([.ref (G.2.2.2.2 (1010 + i))])).length) Slot.unset).toArray = ls at hl ⊢
  have hl : lv_has ls 1 [(0, .ref (G.2.2.2.2 (1010 + i)))] := hl
  refine va_gets hx hb hK.1.2 hS hown (j_W_at hts (List.mem_of_getElem? (i := 507) (by decide +kernel)) rfl) (fun x h => h) (by decide +kernel : decode prog_14_method_154_code 0 = .ok (.getstatic 38, 3)) ?_
  refine lv_if_eq hx hb (by decide +kernel : decode prog_14_method_154_code 3 = .ok (.ifCond .eq 14, 3)) (tgt := 17) rfl (fun h => absurd h (by decide)) (fun _ => ?_)
  refine lv_aload_n hx hb (by decide +kernel : decode prog_14_method_154_code 6 = .ok (.aload_n 0, 1)) rfl (lv_at hl 0 rfl) ?_
  refine vk_getf hx hb (hE.1 i hi).2.1 hS hown (j_W_at hts (List.mem_of_getElem? (i := 1382) (by decide +kernel)) rfl) (fun x h => h) (by decide +kernel : decode prog_14_method_154_code 7 = .ok (.getfield 15, 3)) ?_
  refine lv_if_ne hx hb (by decide +kernel : decode prog_14_method_154_code 10 = .ok (.ifCond .ne 7, 3)) (tgt := 17) rfl (fun h => absurd rfl h) (fun _ => ?_)
  refine lv_iconst (v := 1) hx hb (by decide +kernel : decode prog_14_method_154_code 13 = .ok (.iconst 1, 1)) (by decide) ?_
  refine lv_goto hx hb (by decide +kernel : decode prog_14_method_154_code 14 = .ok (.goto 4, 3)) (tgt := 18) rfl ?_
  exact W.zret (v := 1) hx hb hr (by decide +kernel) (fun t ht hW => ⟨⟨_, (), rfl, rfl, (congrArg Array.size ht).trans hz⟩, hS.F ht⟩) hS.2.2 (by decide +kernel : decode prog_14_method_154_code 18 = .ok (.ireturn, 1))
theorem jd_length {i : Nat} (hi : i < 2) : jd_M l G sz (⟨"java/lang/String", "length", "()I"⟩ : MethodName) prog_14_method_54_code 1 (some .int) 1 [.ref (G.2.2.2.2 (1010 + i))] (nI 3) := by
  refine Met.ofW (cc := prog_14_method_54_code) (maxL := 1) (ret := some .int) (by decide) rfl ?_
  intro p e s m args below meth c s₁ B hml hv
  obtain ⟨rfl, hK⟩ := hv
  have hz := hK.2
  have hE := hK.1.1
  have hx := B.exec
  have hb := B.bytes
  have hr := B.returns
  have hts : ∀ w ∈ j_W, w.before ([.ref (G.2.2.2.2 (1010 + i))] : List Value).toArray s = true := fun w hw => atoms_spec (ws := jd_ws (⟨"java/lang/String", "length", "()I"⟩ : MethodName) prog_14_method_54_code 1 (some .int)) B.pre w (List.mem_cons_of_mem _ hw)
  have hown : s.vm.findClass "java/lang/String" = some m.cls := findClass_of_methodNamed B.named
  have hlocks := B.notSynchronized
  have hS : va_S (fun _ => False) s.heap s.heap [] := va_S.rf
  have hC : CallFix p m c prog_14_method_54_code 1 s ([.ref (G.2.2.2.2 (1010 + i))] : List Value).toArray j_W "java/lang/String" := ⟨hx, hb, hml, hown, hts⟩
  have hl := lv_entry ([.ref (G.2.2.2.2 (1010 + i))]) (n := 1) (Nat.le_of_ble_eq_true rfl)
  rw [lg_entry_eq]
  generalize (lg_sl ([.ref (G.2.2.2.2 (1010 + i))]) ++ List.replicate (1 - (lg_sl ([.ref (G.2.2.2.2 (1010 + i))])).length) Slot.unset).toArray = ls at hl ⊢
  have hl : lv_has ls 1 [(0, .ref (G.2.2.2.2 (1010 + i)))] := hl
  refine lv_aload_n hx hb (by decide +kernel : decode prog_14_method_54_code 0 = .ok (.aload_n 0, 1)) rfl (lv_at hl 0 rfl) ?_
  refine vk_getf hx hb (hE.1 i hi).2.2.1 hS hown (j_W_at hts (List.mem_of_getElem? (i := 1383) (by decide +kernel)) rfl) (fun x h => h) (by decide +kernel : decode prog_14_method_54_code 1 = .ok (.getfield 9, 3)) ?_
  refine va_tlen hx hb (hE.1 i hi).2.2.2 hS (v := nI 3) (by rw [jd_3 hi]; rfl) (by decide +kernel : decode prog_14_method_54_code 4 = .ok (.arraylength, 1)) ?_
  refine lv_aload_n hx hb (by decide +kernel : decode prog_14_method_54_code 5 = .ok (.aload_n 0, 1)) rfl (lv_at hl 0 rfl) ?_
  refine jd_callV (rest := [.int (nI 3)]) (as := []) hC hl.1 hi (jd_coder hi) (List.mem_of_getElem? (i := 513) (by decide +kernel)) (List.mem_of_getElem? (i := 514) (by decide +kernel)) (List.mem_of_getElem? (i := 515) (by decide +kernel)) (List.mem_of_getElem? (i := 516) (by decide +kernel)) ⟨rfl, by decide, by decide, (by decide +kernel : (parseMethodDescriptor "()B").map (fun d => d.parameters.length) = some 0)⟩ ⟨Nat.le_of_ble_eq_true rfl, Nat.le_of_ble_eq_true rfl⟩ hK hS hz (by simp [Value.category]) ⟨Nat.le_refl _, Nat.le_refl _⟩ (by decide +kernel : decode prog_14_method_54_code 6 = .ok (.invokevirtual 335, 3)) (fun H locs hS hz => ?_)
  refine lv_ishr hx hb (by decide +kernel : decode prog_14_method_54_code 9 = .ok (.ishr, 1)) ?_
  exact W.iret (v := nI 3 >>> (nI 0 &&& 31)) hx hb hr (fun t ht hW => ⟨⟨_, (), rfl, by decide +kernel, (congrArg Array.size ht).trans hz⟩, hS.F ht⟩) hS.2.2 (by decide +kernel : decode prog_14_method_54_code 10 = .ok (.ireturn, 1))
theorem jd_canEncode {j : Nat} (hj : j < 65536) : jd_M l G sz (⟨"java/lang/StringLatin1", "canEncode", "(I)Z"⟩ : MethodName) prog_15_method_4_code 1 (some .boolean) 0 [.int (nI j)] (if (255 : Int32) < nI j then nI 0 else nI 1) := by
  refine Met.ofW (cc := prog_15_method_4_code) (maxL := 1) (ret := some .boolean) (by decide) rfl ?_
  intro p e s m args below meth c s₁ B hml hv
  obtain ⟨rfl, hK⟩ := hv
  have hz := hK.2
  have hE := hK.1.1
  have hx := B.exec
  have hb := B.bytes
  have hr := B.returns
  have hts : ∀ w ∈ j_W, w.before ([.int (nI j)] : List Value).toArray s = true := fun w hw => atoms_spec (ws := jd_ws (⟨"java/lang/StringLatin1", "canEncode", "(I)Z"⟩ : MethodName) prog_15_method_4_code 1 (some .boolean)) B.pre w (List.mem_cons_of_mem _ hw)
  have hown : s.vm.findClass "java/lang/StringLatin1" = some m.cls := findClass_of_methodNamed B.named
  have hlocks := B.notSynchronized
  have hS : va_S (fun _ => False) s.heap s.heap [] := va_S.rf
  have hC : CallFix p m c prog_15_method_4_code 1 s ([.int (nI j)] : List Value).toArray j_W "java/lang/StringLatin1" := ⟨hx, hb, hml, hown, hts⟩
  have hl := lv_entry ([.int (nI j)]) (n := 1) (Nat.le_of_ble_eq_true rfl)
  rw [lg_entry_eq]
  generalize (lg_sl ([.int (nI j)]) ++ List.replicate (1 - (lg_sl ([.int (nI j)])).length) Slot.unset).toArray = ls at hl ⊢
  have hl : lv_has ls 1 [(0, .int (nI j))] := hl
  refine lv_iload_n hx hb (by decide +kernel : decode prog_15_method_4_code 0 = .ok (.iload_n 0, 1)) rfl (lv_at hl 0 rfl) ?_
  refine lv_if_lt hx hb (by decide +kernel : decode prog_15_method_4_code 1 = .ok (.ifCond .lt 14, 3)) (tgt := 15) rfl (fun h => absurd h (nI_pos (by omega))) (fun _ => ?_)
  refine lv_iload_n hx hb (by decide +kernel : decode prog_15_method_4_code 4 = .ok (.iload_n 0, 1)) rfl (lv_at hl 0 rfl) ?_
  refine lv_sipush (v := 255) hx hb (by decide +kernel : decode prog_15_method_4_code 5 = .ok (.sipush 255, 3)) (by decide +kernel) ?_
  refine lv_icmp_gt hx hb (by decide +kernel : decode prog_15_method_4_code 8 = .ok (.if_icmp .gt 7, 3)) (tgt := 15) rfl (fun h => ?_) (fun h => ?_)
  · refine lv_iconst (v := 0) hx hb (by decide +kernel : decode prog_15_method_4_code 15 = .ok (.iconst 0, 1)) (by decide) ?_
    exact W.zret (v := 0) hx hb hr (by decide +kernel) (fun t ht hW => ⟨⟨_, (), rfl, by rw [if_pos h]; rfl, (congrArg Array.size ht).trans hz⟩, hS.F ht⟩) hS.2.2 (by decide +kernel : decode prog_15_method_4_code 16 = .ok (.ireturn, 1))
  · refine lv_iconst (v := 1) hx hb (by decide +kernel : decode prog_15_method_4_code 11 = .ok (.iconst 1, 1)) (by decide) ?_
    refine lv_goto hx hb (by decide +kernel : decode prog_15_method_4_code 12 = .ok (.goto 4, 3)) (tgt := 16) rfl ?_
    exact W.zret (v := 1) hx hb hr (by decide +kernel) (fun t ht hW => ⟨⟨_, (), rfl, by rw [if_neg h]; rfl, (congrArg Array.size ht).trans hz⟩, hS.F ht⟩) hS.2.2 (by decide +kernel : decode prog_15_method_4_code 16 = .ok (.ireturn, 1))
theorem jd_indexOfChar {i j : Nat} (hi : i < 2) : jd_M l G sz (⟨"java/lang/StringLatin1", "indexOfChar", "([BIII)I"⟩ : MethodName) prog_15_method_23_code 6 (some .int) 0 [.ref (G.2.2.2.2 (1020 + i)), .int (nI j), .int (nI 0), .int (nI 3)] (jd_ix i j) := by
  refine Met.ofW (cc := prog_15_method_23_code) (maxL := 6) (ret := some .int) (by decide) rfl ?_
  intro p e s m args below meth c s₁ B hml hv
  obtain ⟨rfl, hK⟩ := hv
  have hz := hK.2
  have hE := hK.1.1
  have hx := B.exec
  have hb := B.bytes
  have hr := B.returns
  have hts : ∀ w ∈ j_W, w.before ([.ref (G.2.2.2.2 (1020 + i)), .int (nI j), .int (nI 0), .int (nI 3)] : List Value).toArray s = true := fun w hw => atoms_spec (ws := jd_ws (⟨"java/lang/StringLatin1", "indexOfChar", "([BIII)I"⟩ : MethodName) prog_15_method_23_code 6 (some .int)) B.pre w (List.mem_cons_of_mem _ hw)
  have hown : s.vm.findClass "java/lang/StringLatin1" = some m.cls := findClass_of_methodNamed B.named
  have hlocks := B.notSynchronized
  have hS : va_S (fun _ => False) s.heap s.heap [] := va_S.rf
  have hC : CallFix p m c prog_15_method_23_code 6 s ([.ref (G.2.2.2.2 (1020 + i)), .int (nI j), .int (nI 0), .int (nI 3)] : List Value).toArray j_W "java/lang/StringLatin1" := ⟨hx, hb, hml, hown, hts⟩
  have hl := lv_entry ([.ref (G.2.2.2.2 (1020 + i)), .int (nI j), .int (nI 0), .int (nI 3)]) (n := 6) (Nat.le_of_ble_eq_true rfl)
  rw [lg_entry_eq]
  generalize (lg_sl ([.ref (G.2.2.2.2 (1020 + i)), .int (nI j), .int (nI 0), .int (nI 3)]) ++ List.replicate (6 - (lg_sl ([.ref (G.2.2.2.2 (1020 + i)), .int (nI j), .int (nI 0), .int (nI 3)])).length) Slot.unset).toArray = ls at hl ⊢
  have hl : lv_has ls 6 [(0, .ref (G.2.2.2.2 (1020 + i))), (1, .int (nI j)), (2, .int (nI 0)), (3, .int (nI 3))] := hl
  refine lv_iload_n hx hb (by decide +kernel : decode prog_15_method_23_code 0 = .ok (.iload_n 1, 1)) rfl (lv_at hl 1 rfl) ?_
  refine lv_i2b (v := (nI j).toInt8.toInt32) hx hb (by decide +kernel : decode prog_15_method_23_code 1 = .ok (.i2b, 1)) rfl ?_
  refine lv_istore (nL := 6) (lv' := [(4, .int (nI j).toInt8.toInt32), (0, .ref (G.2.2.2.2 (1020 + i))), (1, .int (nI j)), (2, .int (nI 0)), (3, .int (nI 3))]) hx hb (by decide +kernel : decode prog_15_method_23_code 2 = .ok (.istore 4, 2)) hl (by decide) rfl (fun ls hl => ?_)
  refine lv_iload_n hx hb (by decide +kernel : decode prog_15_method_23_code 4 = .ok (.iload_n 2, 1)) rfl (lv_at hl 3 rfl) ?_
  refine lv_istore (nL := 6) (lv' := [(5, .int (nI 0)), (4, .int (nI j).toInt8.toInt32), (0, .ref (G.2.2.2.2 (1020 + i))), (1, .int (nI j)), (2, .int (nI 0)), (3, .int (nI 3))]) hx hb (by decide +kernel : decode prog_15_method_23_code 5 = .ok (.istore 5, 2)) hl (by decide) rfl (fun ls hl => ?_)
  refine lv_iload hx hb (by decide +kernel : decode prog_15_method_23_code 7 = .ok (.iload 5, 2)) (lv_at hl 0 rfl) ?_
  refine lv_iload_n hx hb (by decide +kernel : decode prog_15_method_23_code 9 = .ok (.iload_n 3, 1)) rfl (lv_at hl 5 rfl) ?_
  refine lv_icmp_ge hx hb (by decide +kernel : decode prog_15_method_23_code 10 = .ok (.if_icmp .ge 21, 3)) (tgt := 31) rfl (fun h => absurd h (by decide)) (fun _ => ?_)
  refine lv_aload_n hx hb (by decide +kernel : decode prog_15_method_23_code 13 = .ok (.aload_n 0, 1)) rfl (lv_at hl 2 rfl) ?_
  refine lv_iload hx hb (by decide +kernel : decode prog_15_method_23_code 14 = .ok (.iload 5, 2)) (lv_at hl 0 rfl) ?_
  refine va_tb hx hb (hE.1 i hi).2.2.2 hS (vp_in_nI (by rw [jd_3 hi]; decide) (by rw [jd_3 hi]; decide)) (v := .int (jd_b i 0)) rfl (by decide +kernel : decode prog_15_method_23_code 16 = .ok (.baload, 1)) ?_
  refine lv_iload hx hb (by decide +kernel : decode prog_15_method_23_code 17 = .ok (.iload 4, 2)) (lv_at hl 1 rfl) ?_
  refine lv_icmp_ne hx hb (by decide +kernel : decode prog_15_method_23_code 19 = .ok (.if_icmp .ne 6, 3)) (tgt := 25) rfl (fun n0 => ?_) (fun y0 => ?_)
  case refine_2 =>
    refine lv_iload hx hb (by decide +kernel : decode prog_15_method_23_code 22 = .ok (.iload 5, 2)) (lv_at hl 0 rfl) ?_
    exact W.iret (v := nI 0) hx hb hr (fun t ht hW => ⟨⟨_, (), rfl, by unfold jd_ix; rw [if_pos y0], (congrArg Array.size ht).trans hz⟩, hS.F ht⟩) hS.2.2 (by decide +kernel : decode prog_15_method_23_code 24 = .ok (.ireturn, 1))
  refine lv_iinc (k := 0) (x := nI 0) (v := nI 1) (nL := 6) (lv' := [(5, .int (nI 1)), (4, .int (nI j).toInt8.toInt32), (0, .ref (G.2.2.2.2 (1020 + i))), (1, .int (nI j)), (2, .int (nI 0)), (3, .int (nI 3))]) hx hb (by decide +kernel : decode prog_15_method_23_code 25 = .ok (.iinc 5 1, 3)) hl rfl (by decide +kernel) (by decide) rfl (fun ls hl => ?_)
  refine lv_goto hx hb (by decide +kernel : decode prog_15_method_23_code 28 = .ok (.goto (-21), 3)) (tgt := 7) rfl ?_
  refine lv_iload hx hb (by decide +kernel : decode prog_15_method_23_code 7 = .ok (.iload 5, 2)) (lv_at hl 0 rfl) ?_
  refine lv_iload_n hx hb (by decide +kernel : decode prog_15_method_23_code 9 = .ok (.iload_n 3, 1)) rfl (lv_at hl 5 rfl) ?_
  refine lv_icmp_ge hx hb (by decide +kernel : decode prog_15_method_23_code 10 = .ok (.if_icmp .ge 21, 3)) (tgt := 31) rfl (fun h => absurd h (by decide)) (fun _ => ?_)
  refine lv_aload_n hx hb (by decide +kernel : decode prog_15_method_23_code 13 = .ok (.aload_n 0, 1)) rfl (lv_at hl 2 rfl) ?_
  refine lv_iload hx hb (by decide +kernel : decode prog_15_method_23_code 14 = .ok (.iload 5, 2)) (lv_at hl 0 rfl) ?_
  refine va_tb hx hb (hE.1 i hi).2.2.2 hS (vp_in_nI (by rw [jd_3 hi]; decide) (by rw [jd_3 hi]; decide)) (v := .int (jd_b i 1)) rfl (by decide +kernel : decode prog_15_method_23_code 16 = .ok (.baload, 1)) ?_
  refine lv_iload hx hb (by decide +kernel : decode prog_15_method_23_code 17 = .ok (.iload 4, 2)) (lv_at hl 1 rfl) ?_
  refine lv_icmp_ne hx hb (by decide +kernel : decode prog_15_method_23_code 19 = .ok (.if_icmp .ne 6, 3)) (tgt := 25) rfl (fun n1 => ?_) (fun y1 => ?_)
  case refine_2 =>
    refine lv_iload hx hb (by decide +kernel : decode prog_15_method_23_code 22 = .ok (.iload 5, 2)) (lv_at hl 0 rfl) ?_
    exact W.iret (v := nI 1) hx hb hr (fun t ht hW => ⟨⟨_, (), rfl, by unfold jd_ix; rw [if_neg n0, if_pos y1], (congrArg Array.size ht).trans hz⟩, hS.F ht⟩) hS.2.2 (by decide +kernel : decode prog_15_method_23_code 24 = .ok (.ireturn, 1))
  refine lv_iinc (k := 0) (x := nI 1) (v := nI 2) (nL := 6) (lv' := [(5, .int (nI 2)), (4, .int (nI j).toInt8.toInt32), (0, .ref (G.2.2.2.2 (1020 + i))), (1, .int (nI j)), (2, .int (nI 0)), (3, .int (nI 3))]) hx hb (by decide +kernel : decode prog_15_method_23_code 25 = .ok (.iinc 5 1, 3)) hl rfl (by decide +kernel) (by decide) rfl (fun ls hl => ?_)
  refine lv_goto hx hb (by decide +kernel : decode prog_15_method_23_code 28 = .ok (.goto (-21), 3)) (tgt := 7) rfl ?_
  refine lv_iload hx hb (by decide +kernel : decode prog_15_method_23_code 7 = .ok (.iload 5, 2)) (lv_at hl 0 rfl) ?_
  refine lv_iload_n hx hb (by decide +kernel : decode prog_15_method_23_code 9 = .ok (.iload_n 3, 1)) rfl (lv_at hl 5 rfl) ?_
  refine lv_icmp_ge hx hb (by decide +kernel : decode prog_15_method_23_code 10 = .ok (.if_icmp .ge 21, 3)) (tgt := 31) rfl (fun h => absurd h (by decide)) (fun _ => ?_)
  refine lv_aload_n hx hb (by decide +kernel : decode prog_15_method_23_code 13 = .ok (.aload_n 0, 1)) rfl (lv_at hl 2 rfl) ?_
  refine lv_iload hx hb (by decide +kernel : decode prog_15_method_23_code 14 = .ok (.iload 5, 2)) (lv_at hl 0 rfl) ?_
  refine va_tb hx hb (hE.1 i hi).2.2.2 hS (vp_in_nI (by rw [jd_3 hi]; decide) (by rw [jd_3 hi]; decide)) (v := .int (jd_b i 2)) rfl (by decide +kernel : decode prog_15_method_23_code 16 = .ok (.baload, 1)) ?_
  refine lv_iload hx hb (by decide +kernel : decode prog_15_method_23_code 17 = .ok (.iload 4, 2)) (lv_at hl 1 rfl) ?_
  refine lv_icmp_ne hx hb (by decide +kernel : decode prog_15_method_23_code 19 = .ok (.if_icmp .ne 6, 3)) (tgt := 25) rfl (fun n2 => ?_) (fun y2 => ?_)
  case refine_2 =>
    refine lv_iload hx hb (by decide +kernel : decode prog_15_method_23_code 22 = .ok (.iload 5, 2)) (lv_at hl 0 rfl) ?_
    exact W.iret (v := nI 2) hx hb hr (fun t ht hW => ⟨⟨_, (), rfl, by unfold jd_ix; rw [if_neg n0, if_neg n1, if_pos y2], (congrArg Array.size ht).trans hz⟩, hS.F ht⟩) hS.2.2 (by decide +kernel : decode prog_15_method_23_code 24 = .ok (.ireturn, 1))
  refine lv_iinc (k := 0) (x := nI 2) (v := nI 3) (nL := 6) (lv' := [(5, .int (nI 3)), (4, .int (nI j).toInt8.toInt32), (0, .ref (G.2.2.2.2 (1020 + i))), (1, .int (nI j)), (2, .int (nI 0)), (3, .int (nI 3))]) hx hb (by decide +kernel : decode prog_15_method_23_code 25 = .ok (.iinc 5 1, 3)) hl rfl (by decide +kernel) (by decide) rfl (fun ls hl => ?_)
  refine lv_goto hx hb (by decide +kernel : decode prog_15_method_23_code 28 = .ok (.goto (-21), 3)) (tgt := 7) rfl ?_
  refine lv_iload hx hb (by decide +kernel : decode prog_15_method_23_code 7 = .ok (.iload 5, 2)) (lv_at hl 0 rfl) ?_
  refine lv_iload_n hx hb (by decide +kernel : decode prog_15_method_23_code 9 = .ok (.iload_n 3, 1)) rfl (lv_at hl 5 rfl) ?_
  refine lv_icmp_ge hx hb (by decide +kernel : decode prog_15_method_23_code 10 = .ok (.if_icmp .ge 21, 3)) (tgt := 31) rfl (fun _ => ?_) (fun h => absurd (Int32.le_refl _) h)
  refine lv_iconst (v := -1) hx hb (by decide +kernel : decode prog_15_method_23_code 31 = .ok (.iconst (-1), 1)) (by decide) ?_
  exact W.iret (v := -1) hx hb hr (fun t ht hW => ⟨⟨_, (), rfl, by unfold jd_ix; rw [if_neg n0, if_neg n1, if_neg n2], (congrArg Array.size ht).trans hz⟩, hS.F ht⟩) hS.2.2 (by decide +kernel : decode prog_15_method_23_code 32 = .ok (.ireturn, 1))
theorem jd_indexOfL {i j : Nat} (hi : i < 2) (hj : j < 65536) : jd_M l G sz (⟨"java/lang/StringLatin1", "indexOf", "([BIII)I"⟩ : MethodName) prog_15_method_22_code 4 (some .int) 1 [.ref (G.2.2.2.2 (1020 + i)), .int (nI j), .int (nI 0), .int (nI 3)] (jd_iy i j) := by
  refine Met.ofW (cc := prog_15_method_22_code) (maxL := 4) (ret := some .int) (by decide) rfl ?_
  intro p e s m args below meth c s₁ B hml hv
  obtain ⟨rfl, hK⟩ := hv
  have hz := hK.2
  have hE := hK.1.1
  have hx := B.exec
  have hb := B.bytes
  have hr := B.returns
  have hts : ∀ w ∈ j_W, w.before ([.ref (G.2.2.2.2 (1020 + i)), .int (nI j), .int (nI 0), .int (nI 3)] : List Value).toArray s = true := fun w hw => atoms_spec (ws := jd_ws (⟨"java/lang/StringLatin1", "indexOf", "([BIII)I"⟩ : MethodName) prog_15_method_22_code 4 (some .int)) B.pre w (List.mem_cons_of_mem _ hw)
  have hown : s.vm.findClass "java/lang/StringLatin1" = some m.cls := findClass_of_methodNamed B.named
  have hlocks := B.notSynchronized
  have hS : va_S (fun _ => False) s.heap s.heap [] := va_S.rf
  have hC : CallFix p m c prog_15_method_22_code 4 s ([.ref (G.2.2.2.2 (1020 + i)), .int (nI j), .int (nI 0), .int (nI 3)] : List Value).toArray j_W "java/lang/StringLatin1" := ⟨hx, hb, hml, hown, hts⟩
  have hl := lv_entry ([.ref (G.2.2.2.2 (1020 + i)), .int (nI j), .int (nI 0), .int (nI 3)]) (n := 4) (Nat.le_of_ble_eq_true rfl)
  rw [lg_entry_eq]
  generalize (lg_sl ([.ref (G.2.2.2.2 (1020 + i)), .int (nI j), .int (nI 0), .int (nI 3)]) ++ List.replicate (4 - (lg_sl ([.ref (G.2.2.2.2 (1020 + i)), .int (nI j), .int (nI 0), .int (nI 3)])).length) Slot.unset).toArray = ls at hl ⊢
  have hl : lv_has ls 4 [(0, .ref (G.2.2.2.2 (1020 + i))), (1, .int (nI j)), (2, .int (nI 0)), (3, .int (nI 3))] := hl
  refine lv_iload_n hx hb (by decide +kernel : decode prog_15_method_22_code 0 = .ok (.iload_n 1, 1)) rfl (lv_at hl 1 rfl) ?_
  refine jd_callS (rest := []) (as := [.int (nI j)]) hC hl.1 (jd_canEncode hj) (List.mem_of_getElem? (i := 520) (by decide +kernel)) (List.mem_of_getElem? (i := 521) (by decide +kernel)) (List.mem_of_getElem? (i := 69) (by decide +kernel)) (List.mem_of_getElem? (i := 522) (by decide +kernel)) ⟨by decide, by decide, (by decide +kernel : (parseMethodDescriptor "(I)Z").map (fun d => d.parameters.length) = some 1)⟩ ⟨Nat.le_of_ble_eq_true rfl, Nat.le_of_ble_eq_true rfl⟩ hK hS hz (by simp [Value.category]) ⟨Nat.le_refl _, Nat.le_refl _⟩ (by decide +kernel : decode prog_15_method_22_code 1 = .ok (.invokestatic 88, 3)) (fun H locs hS hz => ?_)
  refine lv_if_ne hx hb (by decide +kernel : decode prog_15_method_22_code 4 = .ok (.ifCond .ne 5, 3)) (tgt := 9) rfl (fun h => ?_) (fun h => ?_)
  case refine_2 =>
    refine lv_iconst (v := -1) hx hb (by decide +kernel : decode prog_15_method_22_code 7 = .ok (.iconst (-1), 1)) (by decide) ?_
    exact W.iret (v := -1) hx hb hr (fun t ht hW => ⟨⟨_, (), rfl, (by
      by_cases g : (255 : Int32) < nI j
      · unfold jd_iy; rw [if_pos g]
      · rw [if_neg g] at h; exact absurd h (by decide)), (congrArg Array.size ht).trans hz⟩, hS.F ht⟩) hS.2.2 (by decide +kernel : decode prog_15_method_22_code 8 = .ok (.ireturn, 1))
  have g : ¬ (255 : Int32) < nI j := by
    intro g
    rw [if_pos g] at h
    exact h rfl
  refine lv_iload_n hx hb (by decide +kernel : decode prog_15_method_22_code 9 = .ok (.iload_n 2, 1)) rfl (lv_at hl 2 rfl) ?_
  refine lv_iconst (v := nI 0) hx hb (by decide +kernel : decode prog_15_method_22_code 10 = .ok (.iconst 0, 1)) (by decide) ?_
  refine va_mmax hx hb (hml.trans hl.1.symm) hown (j_W_at hts (List.mem_of_getElem? (i := 523) (by decide +kernel)) rfl) (j_W_at hts j_mathok.1.1 rfl) (j_W_at hts j_mathok.1.2.1 rfl) (j_W_at hts j_mathok.1.2.2 rfl) (Nat.le_of_ble_eq_true rfl) (Nat.le_of_ble_eq_true rfl) (Nat.le_refl _) (Nat.le_refl _) (by decide +kernel : decode prog_15_method_22_code 11 = .ok (.invokestatic 92, 3)) ?_
  refine lv_istore_n (nL := 4) (x := nI 0) (lv' := [(2, .int (nI 0)), (0, .ref (G.2.2.2.2 (1020 + i))), (1, .int (nI j)), (3, .int (nI 3))]) hx hb (by decide +kernel : decode prog_15_method_22_code 14 = .ok (.istore_n 2, 1)) rfl hl (by decide) rfl (fun ls hl => ?_)
  refine lv_iload_n hx hb (by decide +kernel : decode prog_15_method_22_code 15 = .ok (.iload_n 3, 1)) rfl (lv_at hl 3 rfl) ?_
  refine lv_aload_n hx hb (by decide +kernel : decode prog_15_method_22_code 16 = .ok (.aload_n 0, 1)) rfl (lv_at hl 1 rfl) ?_
  refine va_tlen hx hb (hE.1 i hi).2.2.2 hS (v := nI 3) (by rw [jd_3 hi]; rfl) (by decide +kernel : decode prog_15_method_22_code 17 = .ok (.arraylength, 1)) ?_
  refine va_mmin hx hb (hml.trans hl.1.symm) hown (j_W_at hts (List.mem_of_getElem? (i := 524) (by decide +kernel)) rfl) (j_W_at hts j_mathok.2.1 rfl) (j_W_at hts j_mathok.1.2.1 rfl) (j_W_at hts j_mathok.2.2 rfl) (Nat.le_of_ble_eq_true rfl) (Nat.le_of_ble_eq_true rfl) (Nat.le_refl _) (Nat.le_refl _) (by decide +kernel : decode prog_15_method_22_code 18 = .ok (.invokestatic 38, 3)) ?_
  refine lv_istore_n (nL := 4) (x := nI 3) (lv' := [(3, .int (nI 3)), (2, .int (nI 0)), (0, .ref (G.2.2.2.2 (1020 + i))), (1, .int (nI j))]) hx hb (by decide +kernel : decode prog_15_method_22_code 21 = .ok (.istore_n 3, 1)) rfl hl (by decide) rfl (fun ls hl => ?_)
  refine lv_iload_n hx hb (by decide +kernel : decode prog_15_method_22_code 22 = .ok (.iload_n 2, 1)) rfl (lv_at hl 1 rfl) ?_
  refine lv_iload_n hx hb (by decide +kernel : decode prog_15_method_22_code 23 = .ok (.iload_n 3, 1)) rfl (lv_at hl 0 rfl) ?_
  refine lv_icmp_lt hx hb (by decide +kernel : decode prog_15_method_22_code 24 = .ok (.if_icmp .lt 5, 3)) (tgt := 29) rfl (fun _ => ?_) (fun h => absurd (by decide) h)
  refine lv_aload_n hx hb (by decide +kernel : decode prog_15_method_22_code 29 = .ok (.aload_n 0, 1)) rfl (lv_at hl 2 rfl) ?_
  refine lv_iload_n hx hb (by decide +kernel : decode prog_15_method_22_code 30 = .ok (.iload_n 1, 1)) rfl (lv_at hl 3 rfl) ?_
  refine lv_iload_n hx hb (by decide +kernel : decode prog_15_method_22_code 31 = .ok (.iload_n 2, 1)) rfl (lv_at hl 1 rfl) ?_
  refine lv_iload_n hx hb (by decide +kernel : decode prog_15_method_22_code 32 = .ok (.iload_n 3, 1)) rfl (lv_at hl 0 rfl) ?_
  refine jd_callS (rest := []) (as := [.ref (G.2.2.2.2 (1020 + i)), .int (nI j), .int (nI 0), .int (nI 3)]) hC hl.1 (jd_indexOfChar (j := j) hi) (List.mem_of_getElem? (i := 527) (by decide +kernel)) (List.mem_of_getElem? (i := 528) (by decide +kernel)) (List.mem_of_getElem? (i := 69) (by decide +kernel)) (List.mem_of_getElem? (i := 529) (by decide +kernel)) ⟨by decide, by decide, (by decide +kernel : (parseMethodDescriptor "([BIII)I").map (fun d => d.parameters.length) = some 4)⟩ ⟨Nat.le_of_ble_eq_true rfl, Nat.le_of_ble_eq_true rfl⟩ hK hS hz (by simp [Value.category]) ⟨Nat.le_refl _, Nat.le_refl _⟩ (by decide +kernel : decode prog_15_method_22_code 33 = .ok (.invokestatic 95, 3)) (fun H locs hS hz => ?_)
  exact W.iret (v := jd_ix i j) hx hb hr (fun t ht hW => ⟨⟨_, (), rfl, by unfold jd_iy; rw [if_neg g], (congrArg Array.size ht).trans hz⟩, hS.F ht⟩) hS.2.2 (by decide +kernel : decode prog_15_method_22_code 36 = .ok (.ireturn, 1))
theorem jd_indexOf2 {i j : Nat} (hi : i < 2) (hj : j < 65536) : jd_M l G sz (⟨"java/lang/String", "indexOf", "(II)I"⟩ : MethodName) prog_14_method_80_code 3 (some .int) 2 [.ref (G.2.2.2.2 (1010 + i)), .int (nI j), .int (nI 0)] (jd_iy i j) := by
  refine Met.ofW (cc := prog_14_method_80_code) (maxL := 3) (ret := some .int) (by decide) rfl ?_
  intro p e s m args below meth c s₁ B hml hv
  obtain ⟨rfl, hK⟩ := hv
  have hz := hK.2
  have hE := hK.1.1
  have hx := B.exec
  have hb := B.bytes
  have hr := B.returns
  have hts : ∀ w ∈ j_W, w.before ([.ref (G.2.2.2.2 (1010 + i)), .int (nI j), .int (nI 0)] : List Value).toArray s = true := fun w hw => atoms_spec (ws := jd_ws (⟨"java/lang/String", "indexOf", "(II)I"⟩ : MethodName) prog_14_method_80_code 3 (some .int)) B.pre w (List.mem_cons_of_mem _ hw)
  have hown : s.vm.findClass "java/lang/String" = some m.cls := findClass_of_methodNamed B.named
  have hlocks := B.notSynchronized
  have hS : va_S (fun _ => False) s.heap s.heap [] := va_S.rf
  have hC : CallFix p m c prog_14_method_80_code 3 s ([.ref (G.2.2.2.2 (1010 + i)), .int (nI j), .int (nI 0)] : List Value).toArray j_W "java/lang/String" := ⟨hx, hb, hml, hown, hts⟩
  have hl := lv_entry ([.ref (G.2.2.2.2 (1010 + i)), .int (nI j), .int (nI 0)]) (n := 3) (Nat.le_of_ble_eq_true rfl)
  rw [lg_entry_eq]
  generalize (lg_sl ([.ref (G.2.2.2.2 (1010 + i)), .int (nI j), .int (nI 0)]) ++ List.replicate (3 - (lg_sl ([.ref (G.2.2.2.2 (1010 + i)), .int (nI j), .int (nI 0)])).length) Slot.unset).toArray = ls at hl ⊢
  have hl : lv_has ls 3 [(0, .ref (G.2.2.2.2 (1010 + i))), (1, .int (nI j)), (2, .int (nI 0))] := hl
  refine lv_aload_n hx hb (by decide +kernel : decode prog_14_method_80_code 0 = .ok (.aload_n 0, 1)) rfl (lv_at hl 0 rfl) ?_
  refine jd_callV (rest := []) (as := []) hC hl.1 hi (jd_isLatin1 hi) (List.mem_of_getElem? (i := 503) (by decide +kernel)) (List.mem_of_getElem? (i := 504) (by decide +kernel)) (List.mem_of_getElem? (i := 505) (by decide +kernel)) (List.mem_of_getElem? (i := 506) (by decide +kernel)) ⟨rfl, by decide, by decide, (by decide +kernel : (parseMethodDescriptor "()Z").map (fun d => d.parameters.length) = some 0)⟩ ⟨Nat.le_of_ble_eq_true rfl, Nat.le_of_ble_eq_true rfl⟩ hK hS hz (by simp [Value.category]) ⟨Nat.le_refl _, Nat.le_refl _⟩ (by decide +kernel : decode prog_14_method_80_code 1 = .ok (.invokevirtual 492, 3)) (fun H locs hS hz => ?_)
  refine lv_if_eq hx hb (by decide +kernel : decode prog_14_method_80_code 4 = .ok (.ifCond .eq 19, 3)) (tgt := 23) rfl (fun h => absurd h (by decide)) (fun _ => ?_)
  refine lv_aload_n hx hb (by decide +kernel : decode prog_14_method_80_code 7 = .ok (.aload_n 0, 1)) rfl (lv_at hl 0 rfl) ?_
  refine vk_getf hx hb (hE.1 i hi).2.2.1 hS hown (j_W_at hts (List.mem_of_getElem? (i := 1383) (by decide +kernel)) rfl) (fun x h => h) (by decide +kernel : decode prog_14_method_80_code 8 = .ok (.getfield 9, 3)) ?_
  refine lv_iload_n hx hb (by decide +kernel : decode prog_14_method_80_code 11 = .ok (.iload_n 1, 1)) rfl (lv_at hl 1 rfl) ?_
  refine lv_iload_n hx hb (by decide +kernel : decode prog_14_method_80_code 12 = .ok (.iload_n 2, 1)) rfl (lv_at hl 2 rfl) ?_
  refine lv_aload_n hx hb (by decide +kernel : decode prog_14_method_80_code 13 = .ok (.aload_n 0, 1)) rfl (lv_at hl 0 rfl) ?_
  refine jd_callV (rest := [.int (nI 0), .int (nI j), .ref (G.2.2.2.2 (1020 + i))]) (as := []) hC hl.1 hi (jd_length hi) (List.mem_of_getElem? (i := 509) (by decide +kernel)) (List.mem_of_getElem? (i := 510) (by decide +kernel)) (List.mem_of_getElem? (i := 511) (by decide +kernel)) (List.mem_of_getElem? (i := 512) (by decide +kernel)) ⟨rfl, by decide, by decide, (by decide +kernel : (parseMethodDescriptor "()I").map (fun d => d.parameters.length) = some 0)⟩ ⟨Nat.le_of_ble_eq_true rfl, Nat.le_of_ble_eq_true rfl⟩ hK hS hz (by simp [Value.category]) ⟨Nat.le_refl _, Nat.le_refl _⟩ (by decide +kernel : decode prog_14_method_80_code 14 = .ok (.invokevirtual 505, 3)) (fun H locs hS hz => ?_)
  refine jd_callS (rest := []) (as := [.ref (G.2.2.2.2 (1020 + i)), .int (nI j), .int (nI 0), .int (nI 3)]) hC hl.1 (jd_indexOfL hi hj) (List.mem_of_getElem? (i := 517) (by decide +kernel)) (List.mem_of_getElem? (i := 518) (by decide +kernel)) (List.mem_of_getElem? (i := 69) (by decide +kernel)) (List.mem_of_getElem? (i := 519) (by decide +kernel)) ⟨by decide, by decide, (by decide +kernel : (parseMethodDescriptor "([BIII)I").map (fun d => d.parameters.length) = some 4)⟩ ⟨Nat.le_of_ble_eq_true rfl, Nat.le_of_ble_eq_true rfl⟩ hK hS hz (by simp [Value.category]) ⟨Nat.le_refl _, Nat.le_refl _⟩ (by decide +kernel : decode prog_14_method_80_code 17 = .ok (.invokestatic 637, 3)) (fun H locs hS hz => ?_)
  refine lv_goto hx hb (by decide +kernel : decode prog_14_method_80_code 20 = .ok (.goto 16, 3)) (tgt := 36) rfl ?_
  exact W.iret (v := jd_iy i j) hx hb hr (fun t ht hW => ⟨⟨_, (), rfl, rfl, (congrArg Array.size ht).trans hz⟩, hS.F ht⟩) hS.2.2 (by decide +kernel : decode prog_14_method_80_code 36 = .ok (.ireturn, 1))
theorem jd_indexOf1 {i j : Nat} (hi : i < 2) (hj : j < 65536) : jd_M l G sz (⟨"java/lang/String", "indexOf", "(I)I"⟩ : MethodName) prog_14_method_79_code 2 (some .int) 3 [.ref (G.2.2.2.2 (1010 + i)), .int (nI j)] (jd_iy i j) := by
  refine Met.ofW (cc := prog_14_method_79_code) (maxL := 2) (ret := some .int) (by decide) rfl ?_
  intro p e s m args below meth c s₁ B hml hv
  obtain ⟨rfl, hK⟩ := hv
  have hz := hK.2
  have hE := hK.1.1
  have hx := B.exec
  have hb := B.bytes
  have hr := B.returns
  have hts : ∀ w ∈ j_W, w.before ([.ref (G.2.2.2.2 (1010 + i)), .int (nI j)] : List Value).toArray s = true := fun w hw => atoms_spec (ws := jd_ws (⟨"java/lang/String", "indexOf", "(I)I"⟩ : MethodName) prog_14_method_79_code 2 (some .int)) B.pre w (List.mem_cons_of_mem _ hw)
  have hown : s.vm.findClass "java/lang/String" = some m.cls := findClass_of_methodNamed B.named
  have hlocks := B.notSynchronized
  have hS : va_S (fun _ => False) s.heap s.heap [] := va_S.rf
  have hC : CallFix p m c prog_14_method_79_code 2 s ([.ref (G.2.2.2.2 (1010 + i)), .int (nI j)] : List Value).toArray j_W "java/lang/String" := ⟨hx, hb, hml, hown, hts⟩
  have hl := lv_entry ([.ref (G.2.2.2.2 (1010 + i)), .int (nI j)]) (n := 2) (Nat.le_of_ble_eq_true rfl)
  rw [lg_entry_eq]
  generalize (lg_sl ([.ref (G.2.2.2.2 (1010 + i)), .int (nI j)]) ++ List.replicate (2 - (lg_sl ([.ref (G.2.2.2.2 (1010 + i)), .int (nI j)])).length) Slot.unset).toArray = ls at hl ⊢
  have hl : lv_has ls 2 [(0, .ref (G.2.2.2.2 (1010 + i))), (1, .int (nI j))] := hl
  refine lv_aload_n hx hb (by decide +kernel : decode prog_14_method_79_code 0 = .ok (.aload_n 0, 1)) rfl (lv_at hl 0 rfl) ?_
  refine lv_iload_n hx hb (by decide +kernel : decode prog_14_method_79_code 1 = .ok (.iload_n 1, 1)) rfl (lv_at hl 1 rfl) ?_
  refine lv_iconst (v := nI 0) hx hb (by decide +kernel : decode prog_14_method_79_code 2 = .ok (.iconst 0, 1)) (by decide) ?_
  refine jd_callV (rest := []) (as := [.int (nI j), .int (nI 0)]) hC hl.1 hi (jd_indexOf2 hi hj) (List.mem_of_getElem? (i := 499) (by decide +kernel)) (List.mem_of_getElem? (i := 500) (by decide +kernel)) (List.mem_of_getElem? (i := 501) (by decide +kernel)) (List.mem_of_getElem? (i := 502) (by decide +kernel)) ⟨rfl, by decide, by decide, (by decide +kernel : (parseMethodDescriptor "(II)I").map (fun d => d.parameters.length) = some 2)⟩ ⟨Nat.le_of_ble_eq_true rfl, Nat.le_of_ble_eq_true rfl⟩ hK hS hz (by simp [Value.category]) ⟨Nat.le_refl _, Nat.le_refl _⟩ (by decide +kernel : decode prog_14_method_79_code 3 = .ok (.invokevirtual 633, 3)) (fun H locs hS hz => ?_)
  exact W.iret (v := jd_iy i j) hx hb hr (fun t ht hW => ⟨⟨_, (), rfl, rfl, (congrArg Array.size ht).trans hz⟩, hS.F ht⟩) hS.2.2 (by decide +kernel : decode prog_14_method_79_code 6 = .ok (.ireturn, 1))
theorem jd_nm256 : ∀ j, j < 256 → jd_iy 0 j = (if nI j = nI 118 then nI 0 else if nI j = nI 108 then nI 1 else if nI j = nI 100 then nI 2 else -1) ∧ jd_iy 1 j = (if nI j = nI 118 then nI 0 else if nI j = nI 107 then nI 1 else if nI j = nI 116 then nI 2 else -1) := by decide +kernel
theorem jd_ne {j k : Nat} (h : 256 ≤ j) (hj : j < 65536) (hk : k < 256) : ¬ nI j = nI k := by rw [nI_eq (by omega) (by omega)]; omega
theorem jd_nm {j : Nat} (hj : j < 65536) : jd_iy 0 j = (if nI j = nI 118 then nI 0 else if nI j = nI 108 then nI 1 else if nI j = nI 100 then nI 2 else -1) ∧ jd_iy 1 j = (if nI j = nI 118 then nI 0 else if nI j = nI 107 then nI 1 else if nI j = nI 116 then nI 2 else -1) := by
  by_cases h : j < 256
  · exact jd_nm256 j h
  · have g : (255 : Int32) < nI j := (nI_ltI (a := 255) (by omega) (by omega)).mpr (by omega)
    unfold jd_iy
    have a := jd_ne (k := 118) (by omega) hj (by omega)
    have b := jd_ne (k := 108) (by omega) hj (by omega)
    have c := jd_ne (k := 100) (by omega) hj (by omega)
    have d := jd_ne (k := 107) (by omega) hj (by omega)
    have f := jd_ne (k := 116) (by omega) hj (by omega)
    exact ⟨by rw [if_pos g, if_neg a, if_neg b, if_neg c], by rw [if_pos g, if_neg a, if_neg d, if_neg f]⟩
