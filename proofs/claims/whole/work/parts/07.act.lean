/-! J: what each instruction does -/
def j_nlo : Option Value → Option Value
  | some (.long _) => none
  | some (.double _) => none
  | o => o
def j_sto : j_L → Nat → Value → j_L
  | [], _, _ => []
  | _ :: L, 0, v => some v :: L
  | o :: L, i + 1, v => (if i = 0 then j_nlo o else o) :: j_sto L i v
def j_ls2 : List Value → j_L
  | [] => []
  | .long x :: vs => some (.long x) :: none :: j_ls2 vs
  | .double x :: vs => some (.double x) :: none :: j_ls2 vs
  | v :: vs => some v :: j_ls2 vs
def j_fr (mi k : Nat) : Option (Nat × Nat) := j_lk2 j_fl (j_own mi) k
def j_cr (mi k : Nat) : Option (Nat × Nat) := j_lk2 j_cl_ (j_own mi) k
def j_kr (mi k : Nat) : Option Int32 := j_lk2 j_kl (j_own mi) k
def j_lr (mi k : Nat) : Option Int64 := j_lk2 j_ll (j_own mi) k
def j_nr (mi k : Nat) : Option Nat := j_lk2 j_nl_ (j_own mi) k
def j_sr (mi k : Nat) : Option Nat := j_lk2 j_stl (j_own mi) k
/-- the values have room in so many locals -/
def j_fit : Nat → List Value → Bool
  | _, [] => true
  | m + 2, .long _ :: as => j_fit m as
  | _, .long _ :: _ => false
  | m + 2, .double _ :: as => j_fit m as
  | _, .double _ :: _ => false
  | m + 1, _ :: as => j_fit m as
  | 0, _ => false
/-- few values are left below -/
def j_sm : List Value → Bool
  | [] => true
  | [_] => true
  | [_, _] => true
  | [_, _, _] => true
  | [_, _, _, _] => true
  | [a, b, c, d, e] => decide (a.category + b.category + c.category + d.category + e.category ≤ 8)
  | _ => false
def j_cal (c n : Nat) (L : j_L) (S as : List Value) (σ : j_St) : j_A := if j_fit (j_ml c) as = true ∧ j_sm S = true then some (.inr (.inl (c, as, σ, n, L, S))) else none
def j_ini (mi : Nat) (as : List Value) : j_L := j_pad (j_ml mi) (j_ls2 as)
def j_jp (pc : Nat) (L : j_L) (S : List Value) (σ : j_St) : j_A := some (.inl (pc, L, S, σ))
/-- which char the names have: v, l, d; v, k, t -/
def j_nm (use x : Int32) : Int32 := if x < nI 0 then -1 else if (x.toUInt32 % 65536).toInt32 = nI 118 then nI 0 else if use = nI 0 then (if (x.toUInt32 % 65536).toInt32 = nI 108 then nI 1 else if (x.toUInt32 % 65536).toInt32 = nI 100 then nI 2 else -1) else (if (x.toUInt32 % 65536).toInt32 = nI 107 then nI 1 else if (x.toUInt32 % 65536).toInt32 = nI 116 then nI 2 else -1)
def j_getf (ci s : Nat) (σ : j_St) (o : Nat) : Value := match j_kd ci s with
  | 1 => j_rv (j_rf σ o s)
  | 2 => j_rv (j_M σ o s).toNatClampNeg
  | _ => .int (j_M σ o s)
def j_putf (mi ci s n : Nat) (L : j_L) (S : List Value) (σ : j_St) : j_A := match j_kd ci s with
  | 1 => j_popR S fun v S => j_popR S fun o S => if j_cl σ o = ci ∧ 1 ≤ v ∧ (j_kind mi = 1 ∧ j_own mi = ci) then j_jp n L S (j_putr σ o s v) else none
  | 2 => j_popR S fun v S => j_popR S fun o S => if j_cl σ o = ci ∧ (1 ≤ v ∧ v < 1000) then j_jp n L S (j_put σ o s (nI v)) else none
  | 3 => j_popI S fun v S => j_popR S fun o S => if j_cl σ o = ci ∧ (v = nI 0 ∨ v = nI 1) then j_jp n L S (j_put σ o s v) else none
  | _ => j_popI S fun v S => j_popR S fun o S => if j_cl σ o = ci then j_jp n L S (j_put σ o s v) else none
/-- the receiver of an instance method: an object of the callee's class -/
def j_rcv (σ : j_St) (c : Nat) (as : List Value) : Prop := match as with
  | .ref o :: _ => j_cl σ o = j_own c
  | _ => False
def j_inv (mi k n : Nat) (L : j_L) (S : List Value) (σ : j_St) : j_A := match j_cr mi k with
  | none => none
  | some (1001, _) => j_popR S fun _ S => if j_sm S = true then j_jp n L S σ else none
  | some (1002, _) => j_popI S fun m S => j_popI S fun dp S => j_popR S fun a1 S => j_popI S fun sp S => j_popR S fun a0 S =>
    if (j_sm S = true ∧ j_cl σ a0 = 20 ∧ j_cl σ a1 = 20) ∧ (0 ≤ m.toInt ∧ 0 ≤ sp.toInt ∧ 0 ≤ dp.toInt) ∧ (sp.toInt + m.toInt ≤ (j_len σ a0 : Int) ∧ dp.toInt + m.toInt ≤ (j_len σ a1 : Int)) then
      j_jp n L S (j_cpy σ a0 sp.toNatClampNeg a1 dp.toNatClampNeg m.toNatClampNeg) else none
  | some (1003, _) => j_popI S fun x S => j_popR S fun o S => if j_sm S = true ∧ j_cl σ o = 3 then j_jp n L (.int (j_nm (j_M σ o 2) x) :: S) σ else none
  | some (1004, _) => j_popI S fun y S => j_popI S fun x S => if j_sm S = true then j_jp n L (.int (if x < y then y else x) :: S) σ else none
  | some (1005, _) => j_popI S fun y S => j_popI S fun x S => if j_sm S = true then j_jp n L (.int (if y < x then y else x) :: S) σ else none
  | some (c, _) => j_pops (j_np c + (if j_kind c = 2 then 0 else 1)) S [] fun as S => match j_kind c with
    | 0 => match as with
      | .ref o :: _ => if j_cl σ o = j_own c then j_cal c n L S as σ else none
      | _ => none
    | 1 => match as with
      | .ref _ :: _ => j_cal c n L S as σ
      | _ => none
    | _ => j_cal c n L S as σ
def j_end (r : Option Value) (σ : j_St) : j_A := some (.inr (.inr (r, σ)))
def j_act (mi pc : Nat) (L : j_L) (S : List Value) (σ : j_St) : j_A := match j_code mi pc with
  | none => none
  | some (i, n, t, sw) => match i with
    | .iload j => j_ldI L j fun v => j_jp n L (v :: S) σ
    | .iload_n j => j_ldI L j.val fun v => j_jp n L (v :: S) σ
    | .aload j => j_ldR L j fun v => j_jp n L (v :: S) σ
    | .aload_n j => j_ldR L j.val fun v => j_jp n L (v :: S) σ
    | .lload j => j_ldJ L j fun v => j_jp n L (v :: S) σ
    | .lload_n j => j_ldJ L j.val fun v => j_jp n L (v :: S) σ
    | .istore j => j_popI S fun x S => j_jp n (j_sto L j (.int x)) S σ
    | .istore_n j => j_popI S fun x S => j_jp n (j_sto L j.val (.int x)) S σ
    | .astore j => j_popA S fun x S => j_jp n (j_sto L j x) S σ
    | .astore_n j => j_popA S fun x S => j_jp n (j_sto L j.val x) S σ
    | .iinc j c => j_inc L j fun x => j_jp n (j_sto L j (.int (x + Int32.ofInt c))) S σ
    | .iconst c => j_jp n L (.int (Int32.ofInt c) :: S) σ
    | .bipush c => j_jp n L (.int (Int8.ofInt c).toInt32 :: S) σ
    | .sipush c => j_jp n L (.int (Int16.ofInt c).toInt32 :: S) σ
    | .lconst c => j_jp n L (.long (Int64.ofNat c.val) :: S) σ
    | .ldc k => match j_kr mi k with
      | some v => j_jp n L (.int v :: S) σ
      | none => none
    | .ldc_w k => match j_kr mi k with
      | some v => j_jp n L (.int v :: S) σ
      | none => none
    | .ldc2_w k => match j_lr mi k with
      | some v => j_jp n L (.long v :: S) σ
      | none => none
    | .aconst_null => j_jp n L (.null :: S) σ
    | .iadd => j_popI S fun b S => j_popI S fun a S => j_jp n L (.int (a + b) :: S) σ
    | .isub => j_popI S fun b S => j_popI S fun a S => j_jp n L (.int (a - b) :: S) σ
    | .imul => j_popI S fun b S => j_popI S fun a S => j_jp n L (.int (a * b) :: S) σ
    | .idiv => j_popI S fun b S => j_popI S fun a S => if b = nI 0 then none else j_jp n L (.int (a / b) :: S) σ
    | .irem => j_popI S fun b S => j_popI S fun a S => if b = nI 0 then none else j_jp n L (.int (a - a / b * b) :: S) σ
    | .iand => j_popI S fun b S => j_popI S fun a S => j_jp n L (.int (a &&& b) :: S) σ
    | .ior => j_popI S fun b S => j_popI S fun a S => j_jp n L (.int (a ||| b) :: S) σ
    | .ixor => j_popI S fun b S => j_popI S fun a S => j_jp n L (.int (a ^^^ b) :: S) σ
    | .ishl => j_popI S fun b S => j_popI S fun a S => j_jp n L (.int (a <<< (b &&& 31)) :: S) σ
    | .ishr => j_popI S fun b S => j_popI S fun a S => j_jp n L (.int (a >>> (b &&& 31)) :: S) σ
    | .iushr => j_popI S fun b S => j_popI S fun a S => j_jp n L (.int (a.toUInt32 >>> (b.toUInt32 &&& Int32.toUInt32 31)).toInt32 :: S) σ
    | .ineg => j_popI S fun a S => j_jp n L (.int (-a) :: S) σ
    | .i2l => j_popI S fun a S => j_jp n L (.long a.toInt64 :: S) σ
    | .l2i => j_popJ S fun a S => j_jp n L (.int a.toInt32 :: S) σ
    | .i2b => j_popI S fun a S => j_jp n L (.int a.toInt8.toInt32 :: S) σ
    | .i2s => j_popI S fun a S => j_jp n L (.int a.toInt16.toInt32 :: S) σ
    | .i2c => j_popI S fun a S => j_jp n L (.int (a.toUInt32 % 65536).toInt32 :: S) σ
    | .land => j_popJ S fun b S => j_popJ S fun a S => j_jp n L (.long (a &&& b) :: S) σ
    | .lor => j_popJ S fun b S => j_popJ S fun a S => j_jp n L (.long (a ||| b) :: S) σ
    | .lshl => j_popI S fun b S => j_popJ S fun a S => j_jp n L (.long (a <<< (b.toInt64 &&& 63)) :: S) σ
    | .lshr => j_popI S fun b S => j_popJ S fun a S => j_jp n L (.long (a >>> (b.toInt64 &&& 63)) :: S) σ
    | .lushr => j_popI S fun b S => j_popJ S fun a S => j_jp n L (.long (a.toUInt64 >>> (b.toInt64.toUInt64 &&& Int64.toUInt64 63)).toInt64 :: S) σ
    | .lcmp => j_popJ S fun b S => j_popJ S fun a S => j_jp n L (.int (lg_cmp a b) :: S) σ
    | .dup => j_pop1 S fun v S => j_jp n L (v :: v :: S) σ
    | .pop => j_pop1 S fun _ S => j_jp n L S σ
    | .dup2 => j_pop1 S fun v S => j_pop1 S fun w S => j_jp n L (v :: w :: v :: w :: S) σ
    | .goto _ => j_jp t L S σ
    | .ifCond c _ => j_popI S fun x S => match c with
      | .eq => if x = nI 0 then j_jp t L S σ else j_jp n L S σ
      | .ne => if x = nI 0 then j_jp n L S σ else j_jp t L S σ
      | .lt => if x < nI 0 then j_jp t L S σ else j_jp n L S σ
      | .ge => if x < nI 0 then j_jp n L S σ else j_jp t L S σ
      | .gt => if nI 0 < x then j_jp t L S σ else j_jp n L S σ
      | .le => if nI 0 < x then j_jp n L S σ else j_jp t L S σ
    | .if_icmp c _ => j_popI S fun y S => j_popI S fun x S => match c with
      | .eq => if x = y then j_jp t L S σ else j_jp n L S σ
      | .ne => if x = y then j_jp n L S σ else j_jp t L S σ
      | .lt => if x < y then j_jp t L S σ else j_jp n L S σ
      | .ge => if x < y then j_jp n L S σ else j_jp t L S σ
      | .gt => if y < x then j_jp t L S σ else j_jp n L S σ
      | .le => if y < x then j_jp n L S σ else j_jp t L S σ
    | .ifnull _ => j_popA S fun v S => match v with
      | .null => j_jp t L S σ
      | _ => j_jp n L S σ
    | .ifnonnull _ => j_popA S fun v S => match v with
      | .null => j_jp n L S σ
      | _ => j_jp t L S σ
    | .lookupswitch _ _ => j_popI S fun x S => j_jp (j_sw x sw t) L S σ
    | .tableswitch _ _ _ _ => j_popI S fun x S => j_jp (j_sw x sw t) L S σ
    | .getfield k => match j_fr mi k with
      | some (ci, s) => j_popR S fun o S => if j_cl σ o = ci then j_jp n L (j_getf ci s σ o :: S) σ else none
      | none => none
    | .putfield k => match j_fr mi k with
      | some (ci, s) => j_putf mi ci s n L S σ
      | none => none
    | .getstatic k => match j_sr mi k with
      | some id => j_jp n L (.ref id :: S) σ
      | none => none
    | .iaload => j_popI S fun i S => j_popR S fun a S => if (j_cl σ a = 20 ∨ j_cl σ a = 22) ∧ j_ix i (j_len σ a) then j_jp n L (.int (j_M σ a i.toNatClampNeg) :: S) σ else none
    | .iastore => j_popI S fun v S => j_popI S fun i S => j_popR S fun a S => if j_cl σ a = 20 ∧ j_ix i (j_len σ a) then j_jp n L S (j_put σ a i.toNatClampNeg v) else none
    | .aaload => j_popI S fun i S => j_popR S fun a S => if j_cl σ a = 21 ∧ j_ix i (j_len σ a) then j_jp n L (j_rv (j_rf σ a i.toNatClampNeg) :: S) σ else none
    | .aastore => j_popR S fun v S => j_popI S fun i S => j_popR S fun a S => if (j_cl σ a = 21 ∧ j_cl σ v = 4) ∧ j_ix i (j_len σ a) then j_jp n L S (j_putr σ a i.toNatClampNeg v) else none
    | .arraylength => j_popR S fun a S => if j_cl σ a = 20 ∨ j_cl σ a = 22 ∨ j_cl σ a = 21 then j_jp n L (.int (nI (j_len σ a)) :: S) σ else none
    | .new k => match j_nr mi k with
      | some c => if j_n σ < 900 then j_jp n L (.ref (j_n σ + 1) :: S) (j_new σ c (j_nf c)) else none
      | none => none
    | .newarray a => match a with
      | .int => j_popI S fun m S => if j_n σ < 900 ∧ j_ix m 1000 then j_jp n L (.ref (j_n σ + 1) :: S) (j_newa σ 20 m.toNatClampNeg) else none
      | _ => none
    | .anewarray k => j_popI S fun m S => if (j_n σ < 900 ∧ (j_own mi = 7 ∧ k = 62)) ∧ j_ix m 1000 then j_jp n L (.ref (j_n σ + 1) :: S) (j_newa σ 21 m.toNatClampNeg) else none
    | .invokevirtual k => j_inv mi k n L S σ
    | .invokespecial k => j_inv mi k n L S σ
    | .invokestatic k => j_inv mi k n L S σ
    | .ireturn => match S with
      | [.int x] => match j_rt mi with
        | some .int => j_end (some (.int x)) σ
        | some .boolean => if x = nI 0 ∨ x = nI 1 then j_end (some (.int x)) σ else none
        | _ => none
      | _ => none
    | .areturn => match S with
      | [.ref a] => j_end (some (.ref a)) σ
      | [.null] => j_end (some .null) σ
      | _ => none
    | .return_ => match S with
      | [] => j_end none σ
      | _ => none
    | _ => none
noncomputable def j_X (d mi pc : Nat) (L : j_L) (S : List Value) (σ : j_St) : j_R := j_Xg j_act j_ini d mi pc L S σ
noncomputable def j_C (d mi : Nat) (as : List Value) (σ : j_St) : j_R := j_Cg j_act j_ini d mi as σ
theorem j_X_eq (d mi pc : Nat) (L : j_L) (S : List Value) (σ : j_St) : j_X d mi pc L S σ = j_go (j_X d mi) (j_C d) (j_act mi pc L S σ) := j_Xg_eq d mi pc L S σ
