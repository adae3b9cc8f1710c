/-! J: a small picture of the machine. A state: how many cells there are, how many slots they have, each cell's kind (a class by its place in vwCl; 20 an array of ints, 21 an array of references, 22 an array that nobody writes), the arrays' lengths, the references in cells, the ints in cells. A reference is a cell's number, 0 is null. -/
abbrev j_St : Type := Nat × Nat × (Nat → Nat) × (Nat → Nat) × (Nat → Nat → Nat) × (Nat → Nat → Int32)
abbrev j_L : Type := List (Option Value)
/-- an instruction as the tables have it: itself, the next place, the place that it jumps to, a switch's cases -/
abbrev j_CE : Type := Instr × Nat × Nat × List (Int32 × Nat)
abbrev j_R : Type := Option (Option Value × j_St)
/-- what an instruction does: it goes on; it calls; it ends; or nothing is said -/
abbrev j_A : Type := Option ((Nat × j_L × List Value × j_St) ⊕ (Nat × List Value × j_St × Nat × j_L × List Value) ⊕ (Option Value × j_St))
def j_n (σ : j_St) : Nat := σ.1
def j_sl (σ : j_St) : Nat := σ.2.1
def j_cl (σ : j_St) : Nat → Nat := σ.2.2.1
def j_len (σ : j_St) : Nat → Nat := σ.2.2.2.1
def j_rf (σ : j_St) : Nat → Nat → Nat := σ.2.2.2.2.1
def j_M (σ : j_St) : Nat → Nat → Int32 := σ.2.2.2.2.2
def j_up {α : Type} (M : Nat → Nat → α) (o k : Nat) (v : α) : Nat → Nat → α := fun o' k' => if o' = o ∧ k' = k then v else M o' k'
def j_up1 {α : Type} (f : Nat → α) (o : Nat) (v : α) : Nat → α := fun o' => if o' = o then v else f o'
def j_put (σ : j_St) (o k : Nat) (v : Int32) : j_St := (σ.1, σ.2.1, σ.2.2.1, σ.2.2.2.1, σ.2.2.2.2.1, j_up σ.2.2.2.2.2 o k v)
def j_putr (σ : j_St) (o k : Nat) (v : Nat) : j_St := (σ.1, σ.2.1, σ.2.2.1, σ.2.2.2.1, j_up σ.2.2.2.2.1 o k v, σ.2.2.2.2.2)
def j_new (σ : j_St) (c N : Nat) : j_St := (σ.1 + 1, σ.2.1 + N, j_up1 σ.2.2.1 (σ.1 + 1) c, σ.2.2.2.1, j_up1 σ.2.2.2.2.1 (σ.1 + 1) (fun _ => 0), j_up1 σ.2.2.2.2.2 (σ.1 + 1) (fun _ => nI 0))
def j_newa (σ : j_St) (c n : Nat) : j_St := (σ.1 + 1, σ.2.1 + n, j_up1 σ.2.2.1 (σ.1 + 1) c, j_up1 σ.2.2.2.1 (σ.1 + 1) n, j_up1 σ.2.2.2.2.1 (σ.1 + 1) (fun _ => 0), j_up1 σ.2.2.2.2.2 (σ.1 + 1) (fun _ => nI 0))
def j_cpy (σ : j_St) (a0 sp a1 dp n : Nat) : j_St := (σ.1, σ.2.1, σ.2.2.1, σ.2.2.2.1, σ.2.2.2.2.1, j_up1 σ.2.2.2.2.2 a1 (va_cpy (σ.2.2.2.2.2 a0) (σ.2.2.2.2.2 a1) sp dp n))
def j_rv (n : Nat) : Value := if n = 0 then .null else .ref n
/-- an index that stands -/
abbrev j_ix (i : Int32) (n : Nat) : Prop := 0 ≤ i.toInt ∧ i.toInt < (n : Int)
-- locals
def j_get : j_L → Nat → Option Value
  | [], _ => none
  | v :: _, 0 => v
  | _ :: L, i + 1 => j_get L i
def j_nl : Option Value → Option Value
  | some (.long _) => none
  | o => o
def j_set : j_L → Nat → Value → j_L
  | [], _, _ => []
  | _ :: L, 0, v => some v :: L
  | o :: L, i + 1, v => (if i = 0 then j_nl o else o) :: j_set L i v
def j_ldI (L : j_L) (j : Nat) (f : Value → j_A) : j_A := match j_get L j with
  | some (.int x) => f (.int x)
  | _ => none
def j_ldJ (L : j_L) (j : Nat) (f : Value → j_A) : j_A := match j_get L j with
  | some (.long x) => f (.long x)
  | _ => none
def j_ldR (L : j_L) (j : Nat) (f : Value → j_A) : j_A := match j_get L j with
  | some (.ref x) => f (.ref x)
  | some .null => f .null
  | _ => none
def j_inc (L : j_L) (j : Nat) (f : Int32 → j_A) : j_A := match j_get L j with
  | some (.int x) => f x
  | _ => none
-- the stack
def j_popI (S : List Value) (f : Int32 → List Value → j_A) : j_A := match S with
  | .int a :: S => f a S
  | _ => none
def j_popJ (S : List Value) (f : Int64 → List Value → j_A) : j_A := match S with
  | .long a :: S => f a S
  | _ => none
def j_popR (S : List Value) (f : Nat → List Value → j_A) : j_A := match S with
  | .ref a :: S => f a S
  | _ => none
/-- a reference or null -/
def j_popA (S : List Value) (f : Value → List Value → j_A) : j_A := match S with
  | .ref a :: S => f (.ref a) S
  | .null :: S => f .null S
  | _ => none
/-- a value of one slot -/
def j_pop1 (S : List Value) (f : Value → List Value → j_A) : j_A := match S with
  | .ref a :: S => f (.ref a) S
  | .null :: S => f .null S
  | .int a :: S => f (.int a) S
  | _ => none
def j_pops : Nat → List Value → List Value → (List Value → List Value → j_A) → j_A
  | 0, S, as, f => f as S
  | _ + 1, [], _, _ => none
  | n + 1, v :: S, as, f => j_pops n S (v :: as) f
def j_ps (r : Option Value) (S : List Value) : List Value := match r with
  | some v => v :: S
  | none => S
def j_sw (x : Int32) : List (Int32 × Nat) → Nat → Nat
  | [], t => t
  | (a, u) :: r, t => if x = a then u else j_sw x r t
-- entry
def j_lsl : List Value → j_L
  | [] => []
  | .long x :: vs => some (.long x) :: none :: j_lsl vs
  | v :: vs => some v :: j_lsl vs
def j_pad : Nat → j_L → j_L
  | 0, L => L
  | n + 1, [] => none :: j_pad n []
  | n + 1, v :: L => v :: j_pad n L
-- going on
def j_go (k : Nat → j_L → List Value → j_St → j_R) (cal : Nat → List Value → j_St → j_R) (a : j_A) : j_R := match a with
  | none => none
  | some (.inl (pc, L, S, σ)) => k pc L S σ
  | some (.inr (.inl (c, as, σ, n, L, S))) => (cal c as σ).bind fun r => k n L (j_ps r.1 S) r.2
  | some (.inr (.inr r)) => some r
def j_cd (g : Nat → Nat → List Value → j_St → j_R) (d c : Nat) (as : List Value) (σ : j_St) : j_R := match d with
  | 0 => none
  | d' + 1 => g d' c as σ
/-- the machine's fuelled run and its limit, over any table of actions 'act' and of entries 'ini' -/
def j_ex (act : Nat → Nat → j_L → List Value → j_St → j_A) (ini : Nat → List Value → j_L) : Nat → Nat → Nat → Nat → j_L → List Value → j_St → j_R
  | 0, _, _, _, _, _, _ => none
  | f + 1, d, mi, pc, L, S, σ => j_go (j_ex act ini f d mi) (j_cd (fun d' c as σ => j_ex act ini f d' c 0 (ini c as) [] σ) d) (act mi pc L S σ)
theorem j_go_mono {k k' : Nat → j_L → List Value → j_St → j_R} {c c' : Nat → List Value → j_St → j_R} (hk : ∀ a b d e r, k a b d e = some r → k' a b d e = some r) (hc : ∀ a b d r, c a b d = some r → c' a b d = some r) {a : j_A} {r : Option Value × j_St} (h : j_go k c a = some r) : j_go k' c' a = some r := by
  unfold j_go at h ⊢
  split at h
  · cases h
  · exact hk _ _ _ _ _ h
  · rename_i c0 as σ n L S
    cases h1 : c c0 as σ with
    | none => rw [h1] at h; cases h
    | some r1 =>
      rw [h1] at h
      rw [hc _ _ _ _ h1]
      exact hk _ _ _ _ _ h
  · exact h
theorem j_ex_succ {act : Nat → Nat → j_L → List Value → j_St → j_A} {ini : Nat → List Value → j_L} : ∀ (f d mi pc : Nat) (L : j_L) (S : List Value) (σ : j_St) (r : Option Value × j_St), j_ex act ini f d mi pc L S σ = some r → j_ex act ini (f + 1) d mi pc L S σ = some r := by
  intro f
  induction f with
  | zero => intro d mi pc L S σ r h; cases h
  | succ f ih =>
    intro d mi pc L S σ r h
    rw [j_ex] at h ⊢
    refine j_go_mono (fun a b d' e r hr => ih _ _ _ _ _ _ _ hr) (fun a b σ r hr => ?_) h
    cases d with
    | zero => cases hr
    | succ d => exact ih _ _ _ _ _ _ _ hr
theorem j_ex_le {act : Nat → Nat → j_L → List Value → j_St → j_A} {ini : Nat → List Value → j_L} {f g d mi pc : Nat} {L : j_L} {S : List Value} {σ : j_St} {r : Option Value × j_St} (hfg : f ≤ g) (h : j_ex act ini f d mi pc L S σ = some r) : j_ex act ini g d mi pc L S σ = some r := by
  induction hfg with
  | refl => exact h
  | step _ ih => exact j_ex_succ _ _ _ _ _ _ _ _ ih
noncomputable def j_Xg (act : Nat → Nat → j_L → List Value → j_St → j_A) (ini : Nat → List Value → j_L) (d mi pc : Nat) (L : j_L) (S : List Value) (σ : j_St) : j_R :=
  match Classical.propDecidable (∃ r f, j_ex act ini f d mi pc L S σ = some r) with
  | .isTrue h => some h.choose
  | .isFalse _ => none
theorem j_Xg_iff {act : Nat → Nat → j_L → List Value → j_St → j_A} {ini : Nat → List Value → j_L} {d mi pc : Nat} {L : j_L} {S : List Value} {σ : j_St} {r : Option Value × j_St} : j_Xg act ini d mi pc L S σ = some r ↔ ∃ f, j_ex act ini f d mi pc L S σ = some r := by
  unfold j_Xg
  split
  · rename_i h _
    constructor
    · intro e
      cases e
      exact h.choose_spec
    · rintro ⟨f, hf⟩
      obtain ⟨g, hg⟩ := h.choose_spec
      have h1 := j_ex_le (Nat.le_max_left f g) hf
      have h2 := j_ex_le (Nat.le_max_right f g) hg
      rw [h1] at h2
      exact h2.symm
  · rename_i h _
    constructor
    · intro e; cases e
    · rintro ⟨f, hf⟩
      exact absurd ⟨r, f, hf⟩ h
noncomputable def j_Cg (act : Nat → Nat → j_L → List Value → j_St → j_A) (ini : Nat → List Value → j_L) (d mi : Nat) (as : List Value) (σ : j_St) : j_R := match d with
  | 0 => none
  | d' + 1 => j_Xg act ini d' mi 0 (ini mi as) [] σ
theorem j_Xg_eq {act : Nat → Nat → j_L → List Value → j_St → j_A} {ini : Nat → List Value → j_L} (d mi pc : Nat) (L : j_L) (S : List Value) (σ : j_St) : j_Xg act ini d mi pc L S σ = j_go (j_Xg act ini d mi) (j_Cg act ini d) (act mi pc L S σ) := by
  have h : ∀ r, j_Xg act ini d mi pc L S σ = some r ↔ j_go (j_Xg act ini d mi) (j_Cg act ini d) (act mi pc L S σ) = some r := by
    intro r
    constructor
    · intro e
      obtain ⟨f, hf⟩ := j_Xg_iff.mp e
      cases f with
      | zero => cases hf
      | succ f =>
        rw [j_ex] at hf
        refine j_go_mono (fun a b d' e r hr => j_Xg_iff.mpr ⟨f, hr⟩) (fun a b σ r hr => ?_) hf
        cases d with
        | zero => cases hr
        | succ d => exact j_Xg_iff.mpr ⟨f, hr⟩
    · intro e
      have key : ∃ f, j_go (j_ex act ini f d mi) (j_cd (fun d' c as σ => j_ex act ini f d' c 0 (ini c as) [] σ) d) (act mi pc L S σ) = some r := by
        generalize act mi pc L S σ = a at e ⊢
        unfold j_go at e ⊢
        split at e
        · cases e
        · obtain ⟨f, hf⟩ := j_Xg_iff.mp e
          exact ⟨f, hf⟩
        · rename_i c as σ n L S
          cases h1 : j_Cg act ini d c as σ with
          | none => rw [h1] at e; cases e
          | some r1 =>
            rw [h1] at e
            cases d with
            | zero => cases h1
            | succ d =>
              obtain ⟨f, hf⟩ := j_Xg_iff.mp h1
              obtain ⟨g, hg⟩ := j_Xg_iff.mp e
              refine ⟨max f g, ?_⟩
              show (j_ex act ini (max f g) d c 0 (ini c as) [] σ).bind _ = _
              rw [j_ex_le (Nat.le_max_left f g) hf]
              exact j_ex_le (Nat.le_max_right f g) hg
        · exact ⟨0, e⟩
      obtain ⟨f, hf⟩ := key
      exact j_Xg_iff.mpr ⟨f + 1, by rw [j_ex]; exact hf⟩
  cases h1 : j_Xg act ini d mi pc L S σ with
  | none =>
    cases h2 : j_go (j_Xg act ini d mi) (j_Cg act ini d) (act mi pc L S σ) with
    | none => rfl
    | some r => rw [(h r).mpr h2] at h1; cases h1
  | some r => exact ((h r).mp h1).symm
