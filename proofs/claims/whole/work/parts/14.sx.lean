/-! One step of J, an instruction. -/
variable {d mi pc n t : Nat} {L : j_L} {S : List Value} {σ : j_St} {sw : List (Int32 × Nat)}
theorem j_go_if {k : Nat → j_L → List Value → j_St → j_R} {c : Nat → List Value → j_St → j_R} {P : Prop} {hD : Decidable P} {a : j_A} : j_go k c (if P then a else none) = if P then j_go k c a else none := by
  split <;> rfl
theorem j_go_ite {k : Nat → j_L → List Value → j_St → j_R} {c : Nat → List Value → j_St → j_R} {P : Prop} {hD : Decidable P} {a b : j_A} : j_go k c (if P then a else b) = if P then j_go k c a else j_go k c b := by
  split <;> rfl
theorem j_C_eq (d mi : Nat) (as : List Value) (σ : j_St) : j_C (d + 1) mi as σ = j_X d mi 0 (j_ini mi as) [] σ := rfl
theorem sx_iload {j : Nat} {x : Int32} (hc : j_code mi pc = some (.iload j, n, t, sw)) (hg : j_get L j = some (.int x)) : j_X d mi pc L S σ = j_X d mi n L (.int x :: S) σ := by
  rw [j_X_eq]; unfold j_act; rw [hc]; dsimp only; unfold j_ldI; rw [hg]; rfl
theorem sx_iload_n {j : Fin 4} {x : Int32} (hc : j_code mi pc = some (.iload_n j, n, t, sw)) (hg : j_get L j.val = some (.int x)) : j_X d mi pc L S σ = j_X d mi n L (.int x :: S) σ := by
  rw [j_X_eq]; unfold j_act; rw [hc]; dsimp only; unfold j_ldI; rw [hg]; rfl
theorem sx_lload {j : Nat} {x : Int64} (hc : j_code mi pc = some (.lload j, n, t, sw)) (hg : j_get L j = some (.long x)) : j_X d mi pc L S σ = j_X d mi n L (.long x :: S) σ := by
  rw [j_X_eq]; unfold j_act; rw [hc]; dsimp only; unfold j_ldJ; rw [hg]; rfl
theorem sx_lload_n {j : Fin 4} {x : Int64} (hc : j_code mi pc = some (.lload_n j, n, t, sw)) (hg : j_get L j.val = some (.long x)) : j_X d mi pc L S σ = j_X d mi n L (.long x :: S) σ := by
  rw [j_X_eq]; unfold j_act; rw [hc]; dsimp only; unfold j_ldJ; rw [hg]; rfl
theorem sx_aload {j : Nat} {x : Nat} (hc : j_code mi pc = some (.aload j, n, t, sw)) (hg : j_get L j = some (.ref x)) : j_X d mi pc L S σ = j_X d mi n L (.ref x :: S) σ := by
  rw [j_X_eq]; unfold j_act; rw [hc]; dsimp only; unfold j_ldR; rw [hg]; rfl
theorem sx_aload_n {j : Fin 4} {x : Nat} (hc : j_code mi pc = some (.aload_n j, n, t, sw)) (hg : j_get L j.val = some (.ref x)) : j_X d mi pc L S σ = j_X d mi n L (.ref x :: S) σ := by
  rw [j_X_eq]; unfold j_act; rw [hc]; dsimp only; unfold j_ldR; rw [hg]; rfl
theorem sx_aloadN {j : Nat} (hc : j_code mi pc = some (.aload j, n, t, sw)) (hg : j_get L j = some .null) : j_X d mi pc L S σ = j_X d mi n L (.null :: S) σ := by
  rw [j_X_eq]; unfold j_act; rw [hc]; dsimp only; unfold j_ldR; rw [hg]; rfl
theorem sx_aload_nN {j : Fin 4} (hc : j_code mi pc = some (.aload_n j, n, t, sw)) (hg : j_get L j.val = some .null) : j_X d mi pc L S σ = j_X d mi n L (.null :: S) σ := by
  rw [j_X_eq]; unfold j_act; rw [hc]; dsimp only; unfold j_ldR; rw [hg]; rfl
theorem sx_istore {j : Nat} {x : Int32} (hc : j_code mi pc = some (.istore j, n, t, sw)) : j_X d mi pc L (.int x :: S) σ = j_X d mi n (j_sto L j (.int x)) S σ := by
  rw [j_X_eq]; unfold j_act; rw [hc]; rfl
theorem sx_istore_n {j : Fin 4} {x : Int32} (hc : j_code mi pc = some (.istore_n j, n, t, sw)) : j_X d mi pc L (.int x :: S) σ = j_X d mi n (j_sto L j.val (.int x)) S σ := by
  rw [j_X_eq]; unfold j_act; rw [hc]; rfl
theorem sx_astore {j : Nat} {x : Nat} (hc : j_code mi pc = some (.astore j, n, t, sw)) : j_X d mi pc L (.ref x :: S) σ = j_X d mi n (j_sto L j (.ref x)) S σ := by
  rw [j_X_eq]; unfold j_act; rw [hc]; rfl
theorem sx_astore_n {j : Fin 4} {x : Nat} (hc : j_code mi pc = some (.astore_n j, n, t, sw)) : j_X d mi pc L (.ref x :: S) σ = j_X d mi n (j_sto L j.val (.ref x)) S σ := by
  rw [j_X_eq]; unfold j_act; rw [hc]; rfl
theorem sx_astoreN {j : Nat} (hc : j_code mi pc = some (.astore j, n, t, sw)) : j_X d mi pc L (.null :: S) σ = j_X d mi n (j_sto L j .null) S σ := by
  rw [j_X_eq]; unfold j_act; rw [hc]; rfl
theorem sx_astore_nN {j : Fin 4} (hc : j_code mi pc = some (.astore_n j, n, t, sw)) : j_X d mi pc L (.null :: S) σ = j_X d mi n (j_sto L j.val .null) S σ := by
  rw [j_X_eq]; unfold j_act; rw [hc]; rfl
theorem sx_iinc {j : Nat} {c : Int} {x v : Int32} (hc : j_code mi pc = some (.iinc j c, n, t, sw)) (hg : j_get L j = some (.int x)) (hv : Int32.ofInt c = v) : j_X d mi pc L S σ = j_X d mi n (j_sto L j (.int (x + v))) S σ := by
  rw [j_X_eq]; unfold j_act; rw [hc]; dsimp only; unfold j_inc; rw [hg]; subst hv; rfl
theorem sx_iconst {c : Int} {v : Int32} (hc : j_code mi pc = some (.iconst c, n, t, sw)) (hv : Int32.ofInt c = v) : j_X d mi pc L S σ = j_X d mi n L (.int v :: S) σ := by
  rw [j_X_eq]; unfold j_act; rw [hc]; subst hv; rfl
theorem sx_bipush {c : Int} {v : Int32} (hc : j_code mi pc = some (.bipush c, n, t, sw)) (hv : (Int8.ofInt c).toInt32 = v) : j_X d mi pc L S σ = j_X d mi n L (.int v :: S) σ := by
  rw [j_X_eq]; unfold j_act; rw [hc]; subst hv; rfl
theorem sx_sipush {c : Int} {v : Int32} (hc : j_code mi pc = some (.sipush c, n, t, sw)) (hv : (Int16.ofInt c).toInt32 = v) : j_X d mi pc L S σ = j_X d mi n L (.int v :: S) σ := by
  rw [j_X_eq]; unfold j_act; rw [hc]; subst hv; rfl
theorem sx_lconst {c : Fin 2} {v : Int64} (hc : j_code mi pc = some (.lconst c, n, t, sw)) (hv : Int64.ofNat c.val = v) : j_X d mi pc L S σ = j_X d mi n L (.long v :: S) σ := by
  rw [j_X_eq]; unfold j_act; rw [hc]; subst hv; rfl
theorem sx_ldc {k : Nat} {v : Int32} (hc : j_code mi pc = some (.ldc k, n, t, sw)) (hv : j_kr mi k = some v) : j_X d mi pc L S σ = j_X d mi n L (.int v :: S) σ := by
  rw [j_X_eq]; unfold j_act; rw [hc]; dsimp only; rw [hv]; rfl
theorem sx_ldc_w {k : Nat} {v : Int32} (hc : j_code mi pc = some (.ldc_w k, n, t, sw)) (hv : j_kr mi k = some v) : j_X d mi pc L S σ = j_X d mi n L (.int v :: S) σ := by
  rw [j_X_eq]; unfold j_act; rw [hc]; dsimp only; rw [hv]; rfl
theorem sx_ldc2_w {k : Nat} {v : Int64} (hc : j_code mi pc = some (.ldc2_w k, n, t, sw)) (hv : j_lr mi k = some v) : j_X d mi pc L S σ = j_X d mi n L (.long v :: S) σ := by
  rw [j_X_eq]; unfold j_act; rw [hc]; dsimp only; rw [hv]; rfl
theorem sx_aconst_null (hc : j_code mi pc = some (.aconst_null, n, t, sw)) : j_X d mi pc L S σ = j_X d mi n L (.null :: S) σ := by
  rw [j_X_eq]; unfold j_act; rw [hc]; rfl
theorem sx_iadd {a : Int32} {b : Int32} (hc : j_code mi pc = some (.iadd, n, t, sw)) : j_X d mi pc L (.int b :: .int a :: S) σ = j_X d mi n L (.int (a + b) :: S) σ := by
  rw [j_X_eq]; unfold j_act; rw [hc]; rfl
theorem sx_isub {a : Int32} {b : Int32} (hc : j_code mi pc = some (.isub, n, t, sw)) : j_X d mi pc L (.int b :: .int a :: S) σ = j_X d mi n L (.int (a - b) :: S) σ := by
  rw [j_X_eq]; unfold j_act; rw [hc]; rfl
theorem sx_imul {a : Int32} {b : Int32} (hc : j_code mi pc = some (.imul, n, t, sw)) : j_X d mi pc L (.int b :: .int a :: S) σ = j_X d mi n L (.int (a * b) :: S) σ := by
  rw [j_X_eq]; unfold j_act; rw [hc]; rfl
theorem sx_iand {a : Int32} {b : Int32} (hc : j_code mi pc = some (.iand, n, t, sw)) : j_X d mi pc L (.int b :: .int a :: S) σ = j_X d mi n L (.int (a &&& b) :: S) σ := by
  rw [j_X_eq]; unfold j_act; rw [hc]; rfl
theorem sx_ior {a : Int32} {b : Int32} (hc : j_code mi pc = some (.ior, n, t, sw)) : j_X d mi pc L (.int b :: .int a :: S) σ = j_X d mi n L (.int (a ||| b) :: S) σ := by
  rw [j_X_eq]; unfold j_act; rw [hc]; rfl
theorem sx_ixor {a : Int32} {b : Int32} (hc : j_code mi pc = some (.ixor, n, t, sw)) : j_X d mi pc L (.int b :: .int a :: S) σ = j_X d mi n L (.int (a ^^^ b) :: S) σ := by
  rw [j_X_eq]; unfold j_act; rw [hc]; rfl
theorem sx_ishl {a : Int32} {b : Int32} (hc : j_code mi pc = some (.ishl, n, t, sw)) : j_X d mi pc L (.int b :: .int a :: S) σ = j_X d mi n L (.int (a <<< (b &&& 31)) :: S) σ := by
  rw [j_X_eq]; unfold j_act; rw [hc]; rfl
theorem sx_ishr {a : Int32} {b : Int32} (hc : j_code mi pc = some (.ishr, n, t, sw)) : j_X d mi pc L (.int b :: .int a :: S) σ = j_X d mi n L (.int (a >>> (b &&& 31)) :: S) σ := by
  rw [j_X_eq]; unfold j_act; rw [hc]; rfl
theorem sx_iushr {a : Int32} {b : Int32} (hc : j_code mi pc = some (.iushr, n, t, sw)) : j_X d mi pc L (.int b :: .int a :: S) σ = j_X d mi n L (.int ((a.toUInt32 >>> (b.toUInt32 &&& Int32.toUInt32 31)).toInt32) :: S) σ := by
  rw [j_X_eq]; unfold j_act; rw [hc]; rfl
theorem sx_land {a : Int64} {b : Int64} (hc : j_code mi pc = some (.land, n, t, sw)) : j_X d mi pc L (.long b :: .long a :: S) σ = j_X d mi n L (.long (a &&& b) :: S) σ := by
  rw [j_X_eq]; unfold j_act; rw [hc]; rfl
theorem sx_lor {a : Int64} {b : Int64} (hc : j_code mi pc = some (.lor, n, t, sw)) : j_X d mi pc L (.long b :: .long a :: S) σ = j_X d mi n L (.long (a ||| b) :: S) σ := by
  rw [j_X_eq]; unfold j_act; rw [hc]; rfl
theorem sx_lshl {a : Int64} {b : Int32} (hc : j_code mi pc = some (.lshl, n, t, sw)) : j_X d mi pc L (.int b :: .long a :: S) σ = j_X d mi n L (.long (a <<< (b.toInt64 &&& 63)) :: S) σ := by
  rw [j_X_eq]; unfold j_act; rw [hc]; rfl
theorem sx_lshr {a : Int64} {b : Int32} (hc : j_code mi pc = some (.lshr, n, t, sw)) : j_X d mi pc L (.int b :: .long a :: S) σ = j_X d mi n L (.long (a >>> (b.toInt64 &&& 63)) :: S) σ := by
  rw [j_X_eq]; unfold j_act; rw [hc]; rfl
theorem sx_lushr {a : Int64} {b : Int32} (hc : j_code mi pc = some (.lushr, n, t, sw)) : j_X d mi pc L (.int b :: .long a :: S) σ = j_X d mi n L (.long ((a.toUInt64 >>> (b.toInt64.toUInt64 &&& Int64.toUInt64 63)).toInt64) :: S) σ := by
  rw [j_X_eq]; unfold j_act; rw [hc]; rfl
theorem sx_lcmp {a : Int64} {b : Int64} (hc : j_code mi pc = some (.lcmp, n, t, sw)) : j_X d mi pc L (.long b :: .long a :: S) σ = j_X d mi n L (.int (lg_cmp a b) :: S) σ := by
  rw [j_X_eq]; unfold j_act; rw [hc]; rfl
theorem sx_ineg {a : Int32} (hc : j_code mi pc = some (.ineg, n, t, sw)) : j_X d mi pc L (.int a :: S) σ = j_X d mi n L (.int (-a) :: S) σ := by
  rw [j_X_eq]; unfold j_act; rw [hc]; rfl
theorem sx_i2l {a : Int32} (hc : j_code mi pc = some (.i2l, n, t, sw)) : j_X d mi pc L (.int a :: S) σ = j_X d mi n L (.long (a.toInt64) :: S) σ := by
  rw [j_X_eq]; unfold j_act; rw [hc]; rfl
theorem sx_l2i {a : Int64} (hc : j_code mi pc = some (.l2i, n, t, sw)) : j_X d mi pc L (.long a :: S) σ = j_X d mi n L (.int (a.toInt32) :: S) σ := by
  rw [j_X_eq]; unfold j_act; rw [hc]; rfl
theorem sx_i2b {a : Int32} (hc : j_code mi pc = some (.i2b, n, t, sw)) : j_X d mi pc L (.int a :: S) σ = j_X d mi n L (.int (a.toInt8.toInt32) :: S) σ := by
  rw [j_X_eq]; unfold j_act; rw [hc]; rfl
theorem sx_i2s {a : Int32} (hc : j_code mi pc = some (.i2s, n, t, sw)) : j_X d mi pc L (.int a :: S) σ = j_X d mi n L (.int (a.toInt16.toInt32) :: S) σ := by
  rw [j_X_eq]; unfold j_act; rw [hc]; rfl
theorem sx_i2c {a : Int32} (hc : j_code mi pc = some (.i2c, n, t, sw)) : j_X d mi pc L (.int a :: S) σ = j_X d mi n L (.int ((a.toUInt32 % 65536).toInt32) :: S) σ := by
  rw [j_X_eq]; unfold j_act; rw [hc]; rfl
theorem sx_idiv {a b : Int32} (hc : j_code mi pc = some (.idiv, n, t, sw)) : j_X d mi pc L (.int b :: .int a :: S) σ = if b = nI 0 then none else j_X d mi n L (.int (a / b) :: S) σ := by
  rw [j_X_eq]; unfold j_act; rw [hc]; dsimp only [j_popI]; exact j_go_ite
theorem sx_irem {a b : Int32} (hc : j_code mi pc = some (.irem, n, t, sw)) : j_X d mi pc L (.int b :: .int a :: S) σ = if b = nI 0 then none else j_X d mi n L (.int (a - a / b * b) :: S) σ := by
  rw [j_X_eq]; unfold j_act; rw [hc]; dsimp only [j_popI]; exact j_go_ite
theorem sx_dup_i {x : Int32} (hc : j_code mi pc = some (.dup, n, t, sw)) : j_X d mi pc L (.int x :: S) σ = j_X d mi n L (.int x :: .int x :: S) σ := by
  rw [j_X_eq]; unfold j_act; rw [hc]; rfl
theorem sx_pop_i {x : Int32} (hc : j_code mi pc = some (.pop, n, t, sw)) : j_X d mi pc L (.int x :: S) σ = j_X d mi n L S σ := by
  rw [j_X_eq]; unfold j_act; rw [hc]; rfl
theorem sx_dup_r {x : Nat} (hc : j_code mi pc = some (.dup, n, t, sw)) : j_X d mi pc L (.ref x :: S) σ = j_X d mi n L (.ref x :: .ref x :: S) σ := by
  rw [j_X_eq]; unfold j_act; rw [hc]; rfl
theorem sx_pop_r {x : Nat} (hc : j_code mi pc = some (.pop, n, t, sw)) : j_X d mi pc L (.ref x :: S) σ = j_X d mi n L S σ := by
  rw [j_X_eq]; unfold j_act; rw [hc]; rfl
theorem sx_dup2 {x : Int32} {y : Nat} (hc : j_code mi pc = some (.dup2, n, t, sw)) : j_X d mi pc L (.int x :: .ref y :: S) σ = j_X d mi n L (.int x :: .ref y :: .int x :: .ref y :: S) σ := by
  rw [j_X_eq]; unfold j_act; rw [hc]; rfl
theorem sx_goto {o : Int} (hc : j_code mi pc = some (.goto o, n, t, sw)) : j_X d mi pc L S σ = j_X d mi t L S σ := by
  rw [j_X_eq]; unfold j_act; rw [hc]; rfl
theorem sx_if_eq {x : Int32} {o : Int} (hc : j_code mi pc = some (.ifCond .eq o, n, t, sw)) : j_X d mi pc L (.int x :: S) σ = if x = nI 0 then j_X d mi t L S σ else j_X d mi n L S σ := by
  rw [j_X_eq]; unfold j_act; rw [hc]; dsimp only [j_popI]; exact j_go_ite
theorem sx_if_ne {x : Int32} {o : Int} (hc : j_code mi pc = some (.ifCond .ne o, n, t, sw)) : j_X d mi pc L (.int x :: S) σ = if x = nI 0 then j_X d mi n L S σ else j_X d mi t L S σ := by
  rw [j_X_eq]; unfold j_act; rw [hc]; dsimp only [j_popI]; exact j_go_ite
theorem sx_if_lt {x : Int32} {o : Int} (hc : j_code mi pc = some (.ifCond .lt o, n, t, sw)) : j_X d mi pc L (.int x :: S) σ = if x < nI 0 then j_X d mi t L S σ else j_X d mi n L S σ := by
  rw [j_X_eq]; unfold j_act; rw [hc]; dsimp only [j_popI]; exact j_go_ite
theorem sx_if_ge {x : Int32} {o : Int} (hc : j_code mi pc = some (.ifCond .ge o, n, t, sw)) : j_X d mi pc L (.int x :: S) σ = if x < nI 0 then j_X d mi n L S σ else j_X d mi t L S σ := by
  rw [j_X_eq]; unfold j_act; rw [hc]; dsimp only [j_popI]; exact j_go_ite
theorem sx_if_gt {x : Int32} {o : Int} (hc : j_code mi pc = some (.ifCond .gt o, n, t, sw)) : j_X d mi pc L (.int x :: S) σ = if nI 0 < x then j_X d mi t L S σ else j_X d mi n L S σ := by
  rw [j_X_eq]; unfold j_act; rw [hc]; dsimp only [j_popI]; exact j_go_ite
theorem sx_if_le {x : Int32} {o : Int} (hc : j_code mi pc = some (.ifCond .le o, n, t, sw)) : j_X d mi pc L (.int x :: S) σ = if nI 0 < x then j_X d mi n L S σ else j_X d mi t L S σ := by
  rw [j_X_eq]; unfold j_act; rw [hc]; dsimp only [j_popI]; exact j_go_ite
theorem sx_icmp_eq {x y : Int32} {o : Int} (hc : j_code mi pc = some (.if_icmp .eq o, n, t, sw)) : j_X d mi pc L (.int y :: .int x :: S) σ = if x = y then j_X d mi t L S σ else j_X d mi n L S σ := by
  rw [j_X_eq]; unfold j_act; rw [hc]; dsimp only [j_popI]; exact j_go_ite
theorem sx_icmp_ne {x y : Int32} {o : Int} (hc : j_code mi pc = some (.if_icmp .ne o, n, t, sw)) : j_X d mi pc L (.int y :: .int x :: S) σ = if x = y then j_X d mi n L S σ else j_X d mi t L S σ := by
  rw [j_X_eq]; unfold j_act; rw [hc]; dsimp only [j_popI]; exact j_go_ite
theorem sx_icmp_lt {x y : Int32} {o : Int} (hc : j_code mi pc = some (.if_icmp .lt o, n, t, sw)) : j_X d mi pc L (.int y :: .int x :: S) σ = if x < y then j_X d mi t L S σ else j_X d mi n L S σ := by
  rw [j_X_eq]; unfold j_act; rw [hc]; dsimp only [j_popI]; exact j_go_ite
theorem sx_icmp_ge {x y : Int32} {o : Int} (hc : j_code mi pc = some (.if_icmp .ge o, n, t, sw)) : j_X d mi pc L (.int y :: .int x :: S) σ = if x < y then j_X d mi n L S σ else j_X d mi t L S σ := by
  rw [j_X_eq]; unfold j_act; rw [hc]; dsimp only [j_popI]; exact j_go_ite
theorem sx_icmp_gt {x y : Int32} {o : Int} (hc : j_code mi pc = some (.if_icmp .gt o, n, t, sw)) : j_X d mi pc L (.int y :: .int x :: S) σ = if y < x then j_X d mi t L S σ else j_X d mi n L S σ := by
  rw [j_X_eq]; unfold j_act; rw [hc]; dsimp only [j_popI]; exact j_go_ite
theorem sx_icmp_le {x y : Int32} {o : Int} (hc : j_code mi pc = some (.if_icmp .le o, n, t, sw)) : j_X d mi pc L (.int y :: .int x :: S) σ = if y < x then j_X d mi n L S σ else j_X d mi t L S σ := by
  rw [j_X_eq]; unfold j_act; rw [hc]; dsimp only [j_popI]; exact j_go_ite
theorem sx_ifnull {o : Int} {x : Nat} (hc : j_code mi pc = some (.ifnull o, n, t, sw)) : j_X d mi pc L (.ref x :: S) σ = j_X d mi n L S σ := by
  rw [j_X_eq]; unfold j_act; rw [hc]; rfl
theorem sx_ifnullN {o : Int} (hc : j_code mi pc = some (.ifnull o, n, t, sw)) : j_X d mi pc L (.null :: S) σ = j_X d mi t L S σ := by
  rw [j_X_eq]; unfold j_act; rw [hc]; rfl
theorem sx_ifnonnull {o : Int} {x : Nat} (hc : j_code mi pc = some (.ifnonnull o, n, t, sw)) : j_X d mi pc L (.ref x :: S) σ = j_X d mi t L S σ := by
  rw [j_X_eq]; unfold j_act; rw [hc]; rfl
theorem sx_ifnonnullN {o : Int} (hc : j_code mi pc = some (.ifnonnull o, n, t, sw)) : j_X d mi pc L (.null :: S) σ = j_X d mi n L S σ := by
  rw [j_X_eq]; unfold j_act; rw [hc]; rfl
theorem sx_lookupswitch {x : Int32} {d0 : Int} {ps : Array (Int × Int)} (hc : j_code mi pc = some (.lookupswitch d0 ps, n, t, sw)) : j_X d mi pc L (.int x :: S) σ = j_X d mi (j_sw x sw t) L S σ := by
  rw [j_X_eq]; unfold j_act; rw [hc]; rfl
theorem sx_tableswitch {x : Int32} {d0 lo hi : Int} {os : Array Int} (hc : j_code mi pc = some (.tableswitch d0 lo hi os, n, t, sw)) : j_X d mi pc L (.int x :: S) σ = j_X d mi (j_sw x sw t) L S σ := by
  rw [j_X_eq]; unfold j_act; rw [hc]; rfl
theorem sx_getI {k ci s o : Nat} (hc : j_code mi pc = some (.getfield k, n, t, sw)) (hf : j_fr mi k = some (ci, s)) (hk : j_kd ci s = 0 ∨ j_kd ci s = 3) : j_X d mi pc L (.ref o :: S) σ = if j_cl σ o = ci then j_X d mi n L (.int (j_M σ o s) :: S) σ else none := by
  rw [j_X_eq]; unfold j_act; rw [hc]; dsimp only [j_popR]; rw [hf]; dsimp only [j_popR]; unfold j_getf
  rcases hk with hk | hk <;> (rw [hk]; exact j_go_if)
theorem sx_getR {k ci s o : Nat} (hc : j_code mi pc = some (.getfield k, n, t, sw)) (hf : j_fr mi k = some (ci, s)) (hk : j_kd ci s = 1) : j_X d mi pc L (.ref o :: S) σ = if j_cl σ o = ci then j_X d mi n L (j_rv (j_rf σ o s) :: S) σ else none := by
  rw [j_X_eq]; unfold j_act; rw [hc]; dsimp only [j_popR]; rw [hf]; dsimp only [j_popR]; unfold j_getf
  rw [hk]; exact j_go_if
theorem sx_getr {k ci s o : Nat} (hc : j_code mi pc = some (.getfield k, n, t, sw)) (hf : j_fr mi k = some (ci, s)) (hk : j_kd ci s = 2) : j_X d mi pc L (.ref o :: S) σ = if j_cl σ o = ci then j_X d mi n L (j_rv (j_M σ o s).toNatClampNeg :: S) σ else none := by
  rw [j_X_eq]; unfold j_act; rw [hc]; dsimp only [j_popR]; rw [hf]; dsimp only [j_popR]; unfold j_getf
  rw [hk]; exact j_go_if
theorem sx_putI {k ci s o : Nat} {v : Int32} (hc : j_code mi pc = some (.putfield k, n, t, sw)) (hf : j_fr mi k = some (ci, s)) (hk : j_kd ci s = 0) : j_X d mi pc L (.int v :: .ref o :: S) σ = if j_cl σ o = ci then j_X d mi n L S (j_put σ o s v) else none := by
  rw [j_X_eq]; unfold j_act; rw [hc]; dsimp only; rw [hf]; dsimp only; unfold j_putf
  rw [hk]; dsimp only [j_popI, j_popR]; exact j_go_if
theorem sx_putZ {k ci s o : Nat} {v : Int32} (hc : j_code mi pc = some (.putfield k, n, t, sw)) (hf : j_fr mi k = some (ci, s)) (hk : j_kd ci s = 3) : j_X d mi pc L (.int v :: .ref o :: S) σ = if j_cl σ o = ci ∧ (v = nI 0 ∨ v = nI 1) then j_X d mi n L S (j_put σ o s v) else none := by
  rw [j_X_eq]; unfold j_act; rw [hc]; dsimp only; rw [hf]; dsimp only; unfold j_putf
  rw [hk]; dsimp only [j_popI, j_popR]; exact j_go_if
theorem sx_putr {k ci s o : Nat} {v : Nat} (hc : j_code mi pc = some (.putfield k, n, t, sw)) (hf : j_fr mi k = some (ci, s)) (hk : j_kd ci s = 2) : j_X d mi pc L (.ref v :: .ref o :: S) σ = if j_cl σ o = ci ∧ (1 ≤ v ∧ v < 1000) then j_X d mi n L S (j_put σ o s (nI v)) else none := by
  rw [j_X_eq]; unfold j_act; rw [hc]; dsimp only; rw [hf]; dsimp only; unfold j_putf
  rw [hk]; dsimp only [j_popR]; exact j_go_if
theorem sx_putF {k ci s o : Nat} {v : Nat} (hc : j_code mi pc = some (.putfield k, n, t, sw)) (hf : j_fr mi k = some (ci, s)) (hk : j_kd ci s = 1 ∧ j_kind mi = 1 ∧ j_own mi = ci) : j_X d mi pc L (.ref v :: .ref o :: S) σ = if j_cl σ o = ci ∧ 1 ≤ v then j_X d mi n L S (j_putr σ o s v) else none := by
  rw [j_X_eq]; unfold j_act; rw [hc]; dsimp only; rw [hf]; dsimp only; unfold j_putf
  rw [hk.1]; dsimp only [j_popR]
  by_cases h : j_cl σ o = ci ∧ 1 ≤ v
  · rw [if_pos h, if_pos ⟨h.1, h.2, hk.2⟩]; rfl
  · rw [if_neg h, if_neg (fun q => h ⟨q.1, q.2.1⟩)]; rfl
theorem sx_getstatic {k id : Nat} (hc : j_code mi pc = some (.getstatic k, n, t, sw)) (hf : j_sr mi k = some id) : j_X d mi pc L S σ = j_X d mi n L (.ref id :: S) σ := by
  rw [j_X_eq]; unfold j_act; rw [hc]; dsimp only; rw [hf]; rfl
theorem sx_iaload {a : Nat} {i : Int32} (hc : j_code mi pc = some (.iaload, n, t, sw)) : j_X d mi pc L (.int i :: .ref a :: S) σ = if (j_cl σ a = 20 ∨ j_cl σ a = 22) ∧ j_ix i (j_len σ a) then j_X d mi n L (.int (j_M σ a i.toNatClampNeg) :: S) σ else none := by
  rw [j_X_eq]; unfold j_act; rw [hc]; dsimp only [j_popI, j_popR]; exact j_go_if
theorem sx_iastore {a : Nat} {i v : Int32} (hc : j_code mi pc = some (.iastore, n, t, sw)) : j_X d mi pc L (.int v :: .int i :: .ref a :: S) σ = if j_cl σ a = 20 ∧ j_ix i (j_len σ a) then j_X d mi n L S (j_put σ a i.toNatClampNeg v) else none := by
  rw [j_X_eq]; unfold j_act; rw [hc]; dsimp only [j_popI, j_popR]; exact j_go_if
theorem sx_aaload {a : Nat} {i : Int32} (hc : j_code mi pc = some (.aaload, n, t, sw)) : j_X d mi pc L (.int i :: .ref a :: S) σ = if j_cl σ a = 21 ∧ j_ix i (j_len σ a) then j_X d mi n L (j_rv (j_rf σ a i.toNatClampNeg) :: S) σ else none := by
  rw [j_X_eq]; unfold j_act; rw [hc]; dsimp only [j_popI, j_popR]; exact j_go_if
theorem sx_aastore {a v : Nat} {i : Int32} (hc : j_code mi pc = some (.aastore, n, t, sw)) : j_X d mi pc L (.ref v :: .int i :: .ref a :: S) σ = if (j_cl σ a = 21 ∧ j_cl σ v = 4) ∧ j_ix i (j_len σ a) then j_X d mi n L S (j_putr σ a i.toNatClampNeg v) else none := by
  rw [j_X_eq]; unfold j_act; rw [hc]; dsimp only [j_popI, j_popR]; exact j_go_if
theorem sx_arraylength {a : Nat} (hc : j_code mi pc = some (.arraylength, n, t, sw)) : j_X d mi pc L (.ref a :: S) σ = if j_cl σ a = 20 ∨ j_cl σ a = 22 ∨ j_cl σ a = 21 then j_X d mi n L (.int (nI (j_len σ a)) :: S) σ else none := by
  rw [j_X_eq]; unfold j_act; rw [hc]; dsimp only [j_popR]; exact j_go_if
theorem sx_new {k c : Nat} (hc : j_code mi pc = some (.new k, n, t, sw)) (hf : j_nr mi k = some c) : j_X d mi pc L S σ = if j_n σ < 900 then j_X d mi n L (.ref (j_n σ + 1) :: S) (j_new σ c (j_nf c)) else none := by
  rw [j_X_eq]; unfold j_act; rw [hc]; dsimp only; rw [hf]; dsimp only; exact j_go_if
theorem sx_newarray {m : Int32} (hc : j_code mi pc = some (.newarray .int, n, t, sw)) : j_X d mi pc L (.int m :: S) σ = if j_n σ < 900 ∧ j_ix m 1000 then j_X d mi n L (.ref (j_n σ + 1) :: S) (j_newa σ 20 m.toNatClampNeg) else none := by
  rw [j_X_eq]; unfold j_act; rw [hc]; dsimp only [j_popI]; exact j_go_if
theorem sx_anewarray {k : Nat} {m : Int32} (hc : j_code mi pc = some (.anewarray k, n, t, sw)) (hk : j_own mi = 7 ∧ k = 62) : j_X d mi pc L (.int m :: S) σ = if j_n σ < 900 ∧ j_ix m 1000 then j_X d mi n L (.ref (j_n σ + 1) :: S) (j_newa σ 21 m.toNatClampNeg) else none := by
  rw [j_X_eq]; unfold j_act; rw [hc]; dsimp only [j_popI]
  by_cases h : j_n σ < 900 ∧ j_ix m 1000
  · rw [if_pos h, if_pos ⟨⟨h.1, hk⟩, h.2⟩]; rfl
  · rw [if_neg h, if_neg (fun q => h ⟨q.1.1, q.2⟩)]; rfl
theorem sx_ireturn {x : Int32} (hc : j_code mi pc = some (.ireturn, n, t, sw)) (hr : j_rt mi = some .int) : j_X d mi pc L [.int x] σ = some (some (.int x), σ) := by
  rw [j_X_eq]; unfold j_act; rw [hc]; dsimp only; rw [hr]; rfl
theorem sx_zreturn {x : Int32} (hc : j_code mi pc = some (.ireturn, n, t, sw)) (hr : j_rt mi = some .boolean) : j_X d mi pc L [.int x] σ = if x = nI 0 ∨ x = nI 1 then some (some (.int x), σ) else none := by
  rw [j_X_eq]; unfold j_act; rw [hc]; dsimp only; rw [hr]; dsimp only; exact j_go_if
theorem sx_areturn {x : Nat} (hc : j_code mi pc = some (.areturn, n, t, sw)) : j_X d mi pc L [.ref x] σ = some (some (.ref x), σ) := by
  rw [j_X_eq]; unfold j_act; rw [hc]; rfl
theorem sx_areturnN (hc : j_code mi pc = some (.areturn, n, t, sw)) : j_X d mi pc L [.null] σ = some (some .null, σ) := by
  rw [j_X_eq]; unfold j_act; rw [hc]; rfl
theorem sx_return (hc : j_code mi pc = some (.return_, n, t, sw)) : j_X d mi pc L [] σ = some (none, σ) := by
  rw [j_X_eq]; unfold j_act; rw [hc]; rfl
/-- calls: the values in order; what is left below -/
theorem sx_inv {i : Instr} {k : Nat} (hc : j_code mi pc = some (i, n, t, sw)) (hi : i = .invokevirtual k ∨ i = .invokespecial k ∨ i = .invokestatic k) : j_X d mi pc L S σ = j_go (j_X d mi) (j_C d) (j_inv mi k n L S σ) := by
  rw [j_X_eq]; unfold j_act; rw [hc]
  rcases hi with rfl | rfl | rfl <;> rfl
theorem sx_obj {k o ns : Nat} (hc : j_code mi pc = some (.invokespecial k, n, t, sw)) (hf : j_cr mi k = some (1001, ns)) : j_X d mi pc L (.ref o :: S) σ = if j_sm S = true then j_X d mi n L S σ else none := by
  rw [sx_inv hc (Or.inr (Or.inl rfl))]; unfold j_inv; rw [hf]; dsimp only [j_popR]; exact j_go_if
theorem sx_cpy {k a0 a1 ns : Nat} {m dp sp : Int32} (hc : j_code mi pc = some (.invokestatic k, n, t, sw)) (hf : j_cr mi k = some (1002, ns)) : j_X d mi pc L (.int m :: .int dp :: .ref a1 :: .int sp :: .ref a0 :: S) σ = if (j_sm S = true ∧ j_cl σ a0 = 20 ∧ j_cl σ a1 = 20) ∧ (0 ≤ m.toInt ∧ 0 ≤ sp.toInt ∧ 0 ≤ dp.toInt) ∧ (sp.toInt + m.toInt ≤ (j_len σ a0 : Int) ∧ dp.toInt + m.toInt ≤ (j_len σ a1 : Int)) then j_X d mi n L S (j_cpy σ a0 sp.toNatClampNeg a1 dp.toNatClampNeg m.toNatClampNeg) else none := by
  rw [sx_inv hc (Or.inr (Or.inr rfl))]; unfold j_inv; rw [hf]; dsimp only [j_popR, j_popI]; exact j_go_if
theorem sx_nameOf {k o ns : Nat} {x : Int32} (hc : j_code mi pc = some (.invokevirtual k, n, t, sw)) (hf : j_cr mi k = some (1003, ns)) : j_X d mi pc L (.int x :: .ref o :: S) σ = if j_sm S = true ∧ j_cl σ o = 3 then j_X d mi n L (.int (j_nm (j_M σ o 2) x) :: S) σ else none := by
  rw [sx_inv hc (Or.inl rfl)]; unfold j_inv; rw [hf]; dsimp only [j_popR, j_popI]; exact j_go_if
theorem sx_max {k ns : Nat} {x y : Int32} (hc : j_code mi pc = some (.invokestatic k, n, t, sw)) (hf : j_cr mi k = some (1004, ns)) : j_X d mi pc L (.int y :: .int x :: S) σ = if j_sm S = true then j_X d mi n L (.int (if x < y then y else x) :: S) σ else none := by
  rw [sx_inv hc (Or.inr (Or.inr rfl))]; unfold j_inv; rw [hf]; dsimp only [j_popI]; exact j_go_if
theorem sx_min {k ns : Nat} {x y : Int32} (hc : j_code mi pc = some (.invokestatic k, n, t, sw)) (hf : j_cr mi k = some (1005, ns)) : j_X d mi pc L (.int y :: .int x :: S) σ = if j_sm S = true then j_X d mi n L (.int (if y < x then y else x) :: S) σ else none := by
  rw [sx_inv hc (Or.inr (Or.inr rfl))]; unfold j_inv; rw [hf]; dsimp only [j_popI]; exact j_go_if
theorem j_pops_rev (S : List Value) (l acc : List Value) (f : List Value → List Value → j_A) : j_pops l.length (l.reverse ++ S) acc f = f (l ++ acc) S := by
  have key : ∀ (m : List Value) (acc : List Value) (f : List Value → List Value → j_A), j_pops m.length (m ++ S) acc f = f (m.reverse ++ acc) S := by
    intro m
    induction m with
    | nil => intro acc f; rfl
    | cons v m ih =>
      intro acc f
      show j_pops m.length (m ++ S) (v :: acc) f = _
      rw [ih, List.reverse_cons, List.append_assoc]
      rfl
  have h5 := key l.reverse acc f
  rw [List.length_reverse, List.reverse_reverse] at h5
  exact h5
def j_inv2 (c n : Nat) (L : j_L) (as S : List Value) (σ : j_St) (kd : Nat) : j_A := match kd with
  | 0 => match as with
    | .ref o :: _ => if j_cl σ o = j_own c then j_cal c n L S as σ else none
    | _ => none
  | 1 => match as with
    | .ref _ :: _ => j_cal c n L S as σ
    | _ => none
  | _ => j_cal c n L S as σ
theorem j_inv_n {k c ns : Nat} (hf : j_cr mi k = some (c, ns)) (h9 : c < 1000) : j_inv mi k n L S σ = j_pops (j_np c + (if j_kind c = 2 then 0 else 1)) S [] fun as S => j_inv2 c n L as S σ (j_kind c) := by
  unfold j_inv
  rw [hf]
  split
  · contradiction
  all_goals (first | (rename_i h; cases h; omega) | skip)
  rename_i c' ns' _ _ _ _ _ h
  cases h
  rfl
theorem sx_call0 {i : Instr} {k c ns kd : Nat} {as : List Value} (hc : j_code mi pc = some (i, n, t, sw)) (hi : i = .invokevirtual k ∨ i = .invokespecial k ∨ i = .invokestatic k) (hf : j_cr mi k = some (c, ns)) (h9 : c < 1000) (hk : j_kind c = kd) (hn : j_np c + (if kd = 2 then 0 else 1) = as.length) :
    j_X d mi pc L (as.reverse ++ S) σ = j_go (j_X d mi) (j_C d) (j_inv2 c n L as S σ kd) := by
  rw [sx_inv hc hi, j_inv_n hf h9, hk, hn, j_pops_rev, List.append_nil]
theorem sx_callV {k c ns o w : Nat} {as st : List Value} (hc : j_code mi pc = some (.invokevirtual k, n, t, sw)) (hf : j_cr mi k = some (c, ns)) (h9 : c < 1000) (hk : j_kind c = 0) (hn : j_np c = as.length) (hw : j_own c = w) (hfit : j_fit (j_ml c) (.ref o :: as) = true) (hst : st = (.ref o :: as).reverse ++ S) :
    j_X d mi pc L st σ = if j_cl σ o = w ∧ j_sm S = true then (j_C d c (.ref o :: as) σ).bind (fun r => j_X d mi n L (j_ps r.1 S) r.2) else none := by
  subst hst
  rw [sx_call0 hc (Or.inl rfl) hf h9 hk (by rw [if_neg (by decide), hn]; rfl)]
  show j_go _ _ (if j_cl σ o = j_own c then j_cal c n L S (.ref o :: as) σ else none) = _
  unfold j_cal
  subst hw
  by_cases hq : j_cl σ o = j_own c
  · rw [if_pos hq]
    by_cases hs : j_sm S = true
    · rw [if_pos ⟨hfit, hs⟩, if_pos ⟨hq, hs⟩]; rfl
    · rw [if_neg (fun q => hs q.2), if_neg (fun q => hs q.2)]; rfl
  · rw [if_neg hq, if_neg (fun q => hq q.1)]; rfl
theorem sx_callI {k c ns o : Nat} {as st : List Value} (hc : j_code mi pc = some (.invokespecial k, n, t, sw)) (hf : j_cr mi k = some (c, ns)) (h9 : c < 1000) (hk : j_kind c = 1) (hn : j_np c = as.length) (hfit : j_fit (j_ml c) (.ref o :: as) = true) (hst : st = (.ref o :: as).reverse ++ S) :
    j_X d mi pc L st σ = if j_sm S = true then (j_C d c (.ref o :: as) σ).bind (fun r => j_X d mi n L (j_ps r.1 S) r.2) else none := by
  subst hst
  rw [sx_call0 hc (Or.inr (Or.inl rfl)) hf h9 hk (by rw [if_neg (by decide), hn]; rfl)]
  show j_go _ _ (j_cal c n L S (.ref o :: as) σ) = _
  unfold j_cal
  by_cases hs : j_sm S = true
  · rw [if_pos ⟨hfit, hs⟩, if_pos hs]; rfl
  · rw [if_neg (fun q => hs q.2), if_neg hs]; rfl
theorem sx_callS {k c ns : Nat} {as st : List Value} (hc : j_code mi pc = some (.invokestatic k, n, t, sw)) (hf : j_cr mi k = some (c, ns)) (h9 : c < 1000) (hk : j_kind c = 2) (hn : j_np c = as.length) (hfit : j_fit (j_ml c) as = true) (hst : st = as.reverse ++ S) :
    j_X d mi pc L st σ = if j_sm S = true then (j_C d c as σ).bind (fun r => j_X d mi n L (j_ps r.1 S) r.2) else none := by
  subst hst
  rw [sx_call0 hc (Or.inr (Or.inr rfl)) hf h9 hk (by rw [if_pos rfl, hn]; rfl)]
  show j_go _ _ (j_cal c n L S as σ) = _
  unfold j_cal
  by_cases hs : j_sm S = true
  · rw [if_pos ⟨hfit, hs⟩, if_pos hs]; rfl
  · rw [if_neg (fun q => hs q.2), if_neg hs]; rfl
