/-! Texts, as they are read: where the reading stops, and the code. -/
abbrev tR : Type := Bool × Nat × List Int32
def nx (B : Nat → Nat) (n q : Nat) : Nat := if q < n then B q else 256
def bI (x : Nat) : Int32 := if x < 256 then nI x else -1
def dgt (x : Nat) : Bool := decide (48 ≤ x) && decide (x ≤ 57)
def lvN (x : Nat) : Nat := if x = 124 then 0 else if x = 38 then 1 else if x = 60 ∨ x = 61 ∨ x = 62 then 2 else if x = 43 ∨ x = 45 then 3 else if x = 37 ∨ x = 42 ∨ x = 47 then 4 else 9
def nmN (u x : Nat) : Nat := if x = 118 then 0 else if u = 0 then (if x = 108 then 1 else if x = 100 then 2 else 3) else (if x = 107 then 1 else if x = 116 then 2 else 3)
def lvI (x : Nat) : Int32 := if lvN x < 9 then nI (lvN x) else -1
def nmI (u x : Nat) : Int32 := if nmN u x < 3 then nI (nmN u x) else -1
/-- a number: its value and where it ends -/
def pmN (B : Nat → Nat) (n : Nat) : Nat → Nat → Nat → Nat × Nat
  | 0, q, v => (v, q)
  | i + 1, q, v => if dgt (nx B n q) = true then pmN B n i (q + 1) (v * 10 + nx B n q - 48) else (v, q)
def lpR (B : Nat → Nat) (n : Nat) (C : Nat → tR) (lev : Nat) : Nat → Nat → List Int32 → tR
  | 0, q, acc => (true, q, acc)
  | i + 1, q, acc => if lvN (nx B n q) = lev then (if (C (q + 1)).1 = true then lpR B n C lev i (C (q + 1)).2.1 (acc ++ (C (q + 1)).2.2 ++ [-(bI (nx B n q))]) else (false, (C (q + 1)).2.1, [])) else (true, q, acc)
def chR (B : Nat → Nat) (n : Nat) (P : Nat → tR) : Nat → Nat → tR
  | 0, q => P q
  | m + 1, q => if (chR B n P m q).1 = true then lpR B n (chR B n P m) (4 - m) (if 4 - m = 2 then 1 else 50) (chR B n P m q).2.1 (chR B n P m q).2.2 else (false, (chR B n P m q).2.1, [])
/-- a number, a name, or nothing -/
def bsR (B : Nat → Nat) (n u q : Nat) : tR := if dgt (nx B n q) = true then (true, (pmN B n 4 q 0).2, [nI (pmN B n 4 q 0).1]) else if nx B n q = 33 ∨ nx B n q = 40 then (false, q, []) else if nmN u (nx B n q) < 3 then (true, q + 1, [-1 - nI (nmN u (nx B n q))]) else (false, q, [])
def ptR (B : Nat → Nat) (n u : Nat) : Nat → Nat → tR
  | 0, q => bsR B n u q
  | k + 1, q => if nx B n q = 33 then (if (ptR B n u k (q + 1)).1 = true then (true, (ptR B n u k (q + 1)).2.1, (ptR B n u k (q + 1)).2.2 ++ [-33]) else (false, (ptR B n u k (q + 1)).2.1, []))
    else if nx B n q = 40 then (if (chR B n (ptR B n u k) 5 (q + 1)).1 = true ∧ nx B n (chR B n (ptR B n u k) 5 (q + 1)).2.1 = 41 then (true, (chR B n (ptR B n u k) 5 (q + 1)).2.1 + 1, (chR B n (ptR B n u k) 5 (q + 1)).2.2) else (false, (chR B n (ptR B n u k) 5 (q + 1)).2.1, []))
    else bsR B n u q
/-- a whole text -/
def txR (B : Nat → Nat) (n u : Nat) : tR := chR B n (ptR B n u 5) 5 0
variable {B : Nat → Nat} {n u : Nat}
theorem bI_lt {x : Nat} (h : x < 256) : bI x = nI x := by unfold bI; rw [if_pos h]
theorem bI_eq {x c : Nat} (hc : c < 256) : bI x = nI c ↔ x = c := by
  unfold bI
  by_cases e : x < 256
  · rw [if_pos e]; exact nI_eq (by omega) (by omega)
  · rw [if_neg e]
    constructor
    · intro h
      have e2 := congrArg Int32.toInt h
      rw [nI_tI (by omega), show (-1 : Int32).toInt = -1 by decide +kernel] at e2
      omega
    · intro h; omega
theorem nx_le (hB : ∀ i, i < n → B i < 256) (q : Nat) : nx B n q ≤ 256 := by
  unfold nx; split
  · have := hB q (by omega); omega
  · omega
theorem nx_in {q : Nat} (h : nx B n q < 256) : q < n := by
  unfold nx at h; split at h <;> omega
theorem nx_out {q : Nat} (h : n ≤ q) : nx B n q = 256 := by
  unfold nx; rw [if_neg (by omega)]
theorem dgt_t {x : Nat} : dgt x = true ↔ 48 ≤ x ∧ x ≤ 57 := by unfold dgt; rw [Bool.and_eq_true, decide_eq_true_iff, decide_eq_true_iff]
theorem lvx_lt {x : Nat} (h : lvN x < 9) : x < 256 := by
  unfold lvN at h; repeat' split at h
  all_goals omega
theorem nm_lt {x : Nat} (h : nmN u x < 3) : x < 256 := by
  unfold nmN at h; repeat' split at h
  all_goals omega
theorem pmN_q : ∀ i q v, q ≤ n → q ≤ (pmN B n i q v).2 ∧ (pmN B n i q v).2 ≤ n := by
  intro i
  induction i with
  | zero => intro q v hq; exact ⟨Nat.le_refl _, hq⟩
  | succ i ih =>
    intro q v hq
    unfold pmN
    by_cases e : dgt (nx B n q) = true
    · rw [if_pos e]
      have := nx_in (B := B) (n := n) (q := q) (by rw [dgt_t] at e; omega)
      have := ih (q + 1) (v * 10 + nx B n q - 48) (by omega)
      omega
    · rw [if_neg e]; exact ⟨Nat.le_refl _, hq⟩
theorem pmN_v : ∀ i q v e, v < e → (pmN B n i q v).1 < e * 10 ^ i := by
  intro i
  induction i with
  | zero => intro q v e h; rw [Nat.pow_zero, Nat.mul_one]; exact h
  | succ i ih =>
    intro q v e h
    unfold pmN
    by_cases c : dgt (nx B n q) = true
    · rw [if_pos c]
      rw [dgt_t] at c
      have := ih (q + 1) (v * 10 + nx B n q - 48) (e * 10) (by omega)
      rw [Nat.pow_succ, Nat.mul_comm (10 ^ i) 10, ← Nat.mul_assoc]
      exact this
    · rw [if_neg c]
      have e1 : 1 ≤ 10 ^ (i + 1) := Nat.pow_pos (by omega)
      have := Nat.mul_le_mul_left e e1
      show v < _
      omega
/-- a reading that goes forward, and whose code is no longer than what is read -/
def Gd (n : Nat) (P : Nat → tR) : Prop := ∀ q, q ≤ n → q ≤ (P q).2.1 ∧ (P q).2.1 ≤ n ∧ ((P q).1 = true → q < (P q).2.1 ∧ (P q).2.2.length + q ≤ (P q).2.1)
theorem bs_gd (u : Nat) : Gd n (bsR B n u) := by
  intro q hq
  unfold bsR
  by_cases c : dgt (nx B n q) = true
  · rw [if_pos c]
    have a := pmN_q (B := B) 4 q 0 hq
    have hin := nx_in (B := B) (n := n) (q := q) (by rw [dgt_t] at c; omega)
    have b : q < (pmN B n 4 q 0).2 := by
      unfold pmN
      rw [if_pos c]
      have := (pmN_q (B := B) (n := n) 3 (q + 1) (0 * 10 + nx B n q - 48) (by omega)).1
      show q < (pmN B n 3 (q + 1) (0 * 10 + nx B n q - 48)).2
      omega
    exact ⟨a.1, a.2, fun _ => ⟨b, by show 1 + q ≤ (pmN B n 4 q 0).2; omega⟩⟩
  · rw [if_neg c]
    by_cases c2 : nx B n q = 33 ∨ nx B n q = 40
    · rw [if_pos c2]; exact ⟨Nat.le_refl _, hq, fun e => by cases e⟩
    · rw [if_neg c2]
      by_cases c3 : nmN u (nx B n q) < 3
      · rw [if_pos c3]
        have := nx_in (nm_lt c3)
        exact ⟨by show q ≤ q + 1; omega, by show q + 1 ≤ n; omega, fun _ => ⟨by show q < q + 1; omega, by show 1 + q ≤ q + 1; omega⟩⟩
      · rw [if_neg c3]; exact ⟨Nat.le_refl _, hq, fun e => by cases e⟩
theorem lp_gd {C : Nat → tR} (hC : Gd n C) {lev : Nat} (hl : lev < 9) : ∀ i q acc, q ≤ n → q ≤ (lpR B n C lev i q acc).2.1 ∧ (lpR B n C lev i q acc).2.1 ≤ n ∧ ((lpR B n C lev i q acc).1 = true → (lpR B n C lev i q acc).2.2.length + q ≤ (lpR B n C lev i q acc).2.1 + acc.length) := by
  intro i
  induction i with
  | zero => intro q acc hq; exact ⟨Nat.le_refl _, hq, fun _ => by show acc.length + q ≤ q + acc.length; omega⟩
  | succ i ih =>
    intro q acc hq
    unfold lpR
    by_cases c : lvN (nx B n q) = lev
    · rw [if_pos c]
      have := nx_in (B := B) (n := n) (q := q) (lvx_lt (by omega))
      obtain ⟨a1, a2, a3⟩ := hC (q + 1) (by omega)
      by_cases c2 : (C (q + 1)).1 = true
      · rw [if_pos c2]
        obtain ⟨b1, b2⟩ := a3 c2
        obtain ⟨d1, d2, d3⟩ := ih (C (q + 1)).2.1 (acc ++ (C (q + 1)).2.2 ++ [-(bI (nx B n q))]) a2
        refine ⟨by omega, d2, fun e => ?_⟩
        have := d3 e
        rw [List.length_append, List.length_append, List.length_singleton] at this
        omega
      · rw [if_neg c2]; exact ⟨by show q ≤ (C (q + 1)).2.1; omega, a2, fun e => by cases e⟩
    · rw [if_neg c]; exact ⟨Nat.le_refl _, hq, fun _ => by show acc.length + q ≤ q + acc.length; omega⟩
theorem ch_gd {P : Nat → tR} (hP : Gd n P) : ∀ m, Gd n (chR B n P m) := by
  intro m
  induction m with
  | zero => exact hP
  | succ m ih =>
    intro q hq
    unfold chR
    obtain ⟨a1, a2, a3⟩ := ih q hq
    by_cases c : (chR B n P m q).1 = true
    · rw [if_pos c]
      obtain ⟨b1, b2⟩ := a3 c
      obtain ⟨d1, d2, d3⟩ := lp_gd (B := B) ih (by omega : 4 - m < 9) (if 4 - m = 2 then 1 else 50) (chR B n P m q).2.1 (chR B n P m q).2.2 a2
      exact ⟨by omega, d2, fun e => ⟨by omega, by have := d3 e; omega⟩⟩
    · rw [if_neg c]; exact ⟨a1, a2, fun e => by cases e⟩
theorem pt_gd : ∀ k, Gd n (ptR B n u k) := by
  intro k
  induction k with
  | zero => exact bs_gd u
  | succ k ih =>
    intro q hq
    unfold ptR
    by_cases c : nx B n q = 33
    · rw [if_pos c]
      have := nx_in (B := B) (n := n) (q := q) (by omega)
      obtain ⟨a1, a2, a3⟩ := ih (q + 1) (by omega)
      by_cases c2 : (ptR B n u k (q + 1)).1 = true
      · rw [if_pos c2]
        obtain ⟨b1, b2⟩ := a3 c2
        refine ⟨by show q ≤ (ptR B n u k (q + 1)).2.1; omega, a2, fun _ => ⟨by show q < (ptR B n u k (q + 1)).2.1; omega, ?_⟩⟩
        show ((ptR B n u k (q + 1)).2.2 ++ [-33]).length + q ≤ (ptR B n u k (q + 1)).2.1
        rw [List.length_append, List.length_singleton]; omega
      · rw [if_neg c2]; exact ⟨by show q ≤ (ptR B n u k (q + 1)).2.1; omega, a2, fun e => by cases e⟩
    · rw [if_neg c]
      by_cases c2 : nx B n q = 40
      · rw [if_pos c2]
        have := nx_in (B := B) (n := n) (q := q) (by omega)
        obtain ⟨a1, a2, a3⟩ := ch_gd (B := B) ih 5 (q + 1) (by omega)
        by_cases c3 : (chR B n (ptR B n u k) 5 (q + 1)).1 = true ∧ nx B n (chR B n (ptR B n u k) 5 (q + 1)).2.1 = 41
        · rw [if_pos c3]
          obtain ⟨b1, b2⟩ := a3 c3.1
          have := nx_in (B := B) (n := n) (q := (chR B n (ptR B n u k) 5 (q + 1)).2.1) (by omega)
          exact ⟨by show q ≤ (chR B n (ptR B n u k) 5 (q + 1)).2.1 + 1; omega, by show (chR B n (ptR B n u k) 5 (q + 1)).2.1 + 1 ≤ n; omega, fun _ => ⟨by show q < (chR B n (ptR B n u k) 5 (q + 1)).2.1 + 1; omega, by show (chR B n (ptR B n u k) 5 (q + 1)).2.2.length + q ≤ (chR B n (ptR B n u k) 5 (q + 1)).2.1 + 1; omega⟩⟩
        · rw [if_neg c3]; exact ⟨by show q ≤ (chR B n (ptR B n u k) 5 (q + 1)).2.1; omega, a2, fun e => by cases e⟩
      · rw [if_neg c2]; exact bs_gd u q hq
