/-! THE STATE: small facts -/
theorem st_up_s {A : st_A} {f i : Nat} {v : Int32} : st_up A f i v f i = v := by unfold st_up; rw [if_pos ⟨rfl, rfl⟩]
theorem st_up_f {A : st_A} {f i j : Nat} {v : Int32} : st_up A f i v f j = if j = i then v else A f j := by
  unfold st_up
  by_cases e : j = i
  · rw [if_pos ⟨rfl, e⟩, if_pos e]
  · rw [if_neg (fun y => e y.2), if_neg e]
theorem st_up_n {A : st_A} {f g i j : Nat} {v : Int32} (e : g ≠ f) : st_up A f i v g j = A g j := by unfold st_up; rw [if_neg (fun y => e y.1)]
theorem ev_b0 {c : Prop} [Decidable c] : ev_b c = 0 ↔ ¬ c := by
  unfold ev_b
  split
  · next z => exact ⟨fun y => absurd y (by decide), fun y => absurd z y⟩
  · next z => exact ⟨fun _ => z, fun _ => rfl⟩
def st_in (p : Int32) (n : Nat) : Prop := ¬ p < 0 ∧ p < nI n
theorem st_ix (p : Int32) {n : Nat} (hn : n ≤ 160) : (∃ j, j < n ∧ p = nI j ∧ st_in (nI j) n ∧ (0 ≤ nI j ∧ nI j ≤ nI n - 1) ∧ ¬ nI j < 0 ∧ ¬ nI n ≤ nI j ∧ (nI j).toNatClampNeg = j) ∨ (¬ st_in p n ∧ ¬ (0 ≤ p ∧ p ≤ nI n - 1) ∧ (p < 0 ∨ nI n ≤ p)) := by
  by_cases h0 : p < 0
  · exact Or.inr ⟨fun y => y.1 h0, fun y => absurd h0 (Int32.not_lt.mpr y.1), Or.inl h0⟩
  · obtain ⟨j, hj, rfl⟩ := nI_of h0
    by_cases h1 : j < n
    · refine Or.inl ⟨j, h1, rfl, ⟨h0, nI_lt h1 (by omega)⟩, ⟨Int32.not_lt.mp h0, ?_⟩, h0, nI_ge h1 (by omega), nI_clamp hj⟩
      obtain ⟨k, rfl⟩ : ∃ k, n = k + 1 := ⟨n - 1, by omega⟩
      rw [nI_pred]
      exact nI_le (by omega) (by omega)
    · refine Or.inr ⟨fun y => nI_nlt (by omega) hj y.2, fun y => ?_, Or.inr (nI_le (by omega) hj)⟩
      rcases Nat.eq_zero_or_pos n with e | e
      · subst e
        have h2 : nI 0 - 1 = -1 := by decide
        rw [h2] at y
        have h3 := Int32.le_trans y.1 y.2
        exact absurd h3 (by decide)
      · obtain ⟨k, rfl⟩ : ∃ k, n = k + 1 := ⟨n - 1, by omega⟩
        rw [nI_pred] at y
        exact absurd y.2 (nI_ge (by omega) hj)
theorem pi_l {A : Int32 → ev_AH → Prop} {X : String → ev_AH → Prop} {r : Int32} {h : ev_AH} : ev_pi A X (.inl (some (.int r))) h = A r h := rfl
theorem pl_l {A : Int64 → ev_AH → Prop} {X : String → ev_AH → Prop} {r : Int64} {h : ev_AH} : ev_pl A X (.inl (some (.long r))) h = A r h := rfl
theorem pr_l {A : Nat → ev_AH → Prop} {X : String → ev_AH → Prop} {r : Nat} {h : ev_AH} : ev_pr A X (.inl (some (.ref r))) h = A r h := rfl
theorem pv_l {A : ev_AH → Prop} {X : String → ev_AH → Prop} {h : ev_AH} : ev_pv A X (.inl none) h = A h := rfl
abbrev st_O : Type := Int32 × Int32 × Nat × Nat × st_A
def st_find (p : Nat → Bool) : Nat → Nat → Option Nat
  | 0, _ => none
  | d + 1, i => if p i then some i else st_find p d (i + 1)
def st_cnt (p : Nat → Bool) : Nat → Nat → Nat → Nat
  | 0, _, a => a
  | d + 1, i, a => st_cnt p d (i + 1) (if p i then a + 1 else a)
def st_sum (f : Nat → Int32) : Nat → Nat → Int32 → Int32
  | 0, _, a => a
  | d + 1, i, a => st_sum f d (i + 1) (a + f i)
/-- the line at place k of the order i -/
def st_l (A : st_A) (i k : Nat) : Nat := (A 11 (8 * i + k)).toNatClampNeg
/-- how many lines the order i has -/
def st_s (A : st_A) (i : Nat) : Nat := (A 10 i).toNatClampNeg
def st_h (A : st_A) (j : Nat) : Nat := (A 13 j).toNatClampNeg
/-- what holds in every state -/
def st_I (no nl : Nat) (A : st_A) : Prop := (no ≤ 20 ∧ nl ≤ 60) ∧
  (∀ j, j < nl → ∃ i, i < no ∧ A 13 j = nI i ∧ ∃ s k, A 10 i = nI s ∧ s ≤ 8 ∧ k < s ∧ A 11 (8 * i + k) = nI j) ∧
  (∀ i, i < no → ∃ s, s ≤ 8 ∧ A 10 i = nI s ∧ ∀ k, k < s → ∃ j, j < nl ∧ A 11 (8 * i + k) = nI j ∧ A 13 j = nI i) ∧
  (∀ i, i < no → ∃ q b, q ≤ 7 ∧ A 6 i = nI q ∧ b < 256 ∧ A 7 i = nI b ∧ (q = 7 → A 10 i = 0)) ∧
  (∀ j, j < nl → ∃ w h p s g t r, p ≤ h ∧ h ≤ w ∧ w ≤ 1000 ∧ s ≤ w ∧ A 17 j = nI w ∧ A 18 j = nI h ∧ A 19 j = nI p ∧ A 20 j = nI s ∧ g ≤ 15 ∧ A 14 j = nI g ∧ t ≤ 16 ∧ A 15 j + 1 = nI t ∧ r ≤ 7 ∧ A 16 j = nI r ∧ (A 21 j = 0 ∨ A 21 j = 1) ∧ (A 22 j = 0 ∨ A 22 j = 1)) ∧
  (∀ j, j < nl → ∀ i q, i < no → A 13 j = nI i → q ≤ 7 → A 6 i = nI q → (q < 4 → A 20 j = 0) ∧ (q < 2 → A 19 j = 0) ∧ (q = 6 → A 21 j = 0)) ∧
  (∀ i, no ≤ i → A 7 i = 0 ∧ A 10 i = 0) ∧ (∀ j, nl ≤ j → A 18 j = 0 ∧ A 19 j = 0 ∧ A 20 j = 0 ∧ A 22 j = 0)
/-! OPERATIONS, as the reference does them: how it ends (0: an answer), the answer, the state -/
def st_no (A : st_A) (no : Nat) (c n r d : Int32) : st_A := st_up (st_up (st_up (st_up (st_up (st_up (st_up A 2 no c) 3 no n) 4 no r) 5 no d) 6 no 0) 8 no 1) 9 no (-1)
def op_order (no nl : Nat) (A : st_A) (c n r d : Int32) : st_O :=
  if ¬ ((0 ≤ c ∧ c ≤ 7) ∧ (1 ≤ n ∧ n ≤ 99999) ∧ (1 ≤ r ∧ r ≤ 9) ∧ (0 ≤ d ∧ d ≤ 10000)) then (1, 0, no, nl, A) else
  match st_find (fun o => decide (A 2 o = c ∧ A 3 o = n)) no 0 with
  | some o => (0, -1 - nI o, no, nl, A)
  | none => if nI no = 20 then (2, 0, no, nl, A) else (0, nI no, no + 1, nl, st_no A no c n r d)
def st_hang (A : st_A) (o l : Nat) : st_A := st_up (st_up (st_up A 11 (8 * o + st_s A o) (nI l)) 10 o (A 10 o + 1)) 13 l (nI o)
def st_nl (A : st_A) (nl o : Nat) (g n r : Int32) : st_A :=
  st_up (st_hang (st_up (st_up (st_up (st_up (st_up A 14 nl g) 15 nl (-1)) 16 nl r) 17 nl n) 21 nl 1) o nl) 8 o (A 8 o + 1)
def op_line1 (no nl : Nat) (A : st_A) (i : Nat) (g n r : Int32) : st_O :=
  if ¬ ((0 ≤ g ∧ g ≤ 15) ∧ (1 ≤ n ∧ n ≤ 1000) ∧ (0 ≤ r ∧ r ≤ 7)) then (2, 0, no, nl, A) else if ¬ A 6 i = 0 then (3, 0, no, nl, A) else if nI nl = 60 ∨ A 10 i = 8 then (4, 0, no, nl, A) else (0, nI nl, no, nl + 1, st_nl A nl i g n r)
def op_line (no nl : Nat) (A : st_A) (p g n r : Int32) : st_O := if p < 0 ∨ nI no ≤ p then (1, 0, no, nl, A) else op_line1 no nl A p.toNatClampNeg g n r
def op_hold1 (no nl : Nat) (A : st_A) (j i : Nat) (n : Int32) : st_O :=
  if ¬ (1 ≤ n ∧ n ≤ 1000) then (2, 0, no, nl, A) else if 1 < A 6 i ∨ A 21 j = 0 ∨ ¬ (A 18 j + n) ≤ A 17 j then (3, 0, no, nl, A) else (0, A 18 j + n, no, nl, st_up (st_up A 18 j (A 18 j + n)) 8 i (A 8 i + 1))
def op_hold (no nl : Nat) (A : st_A) (p n : Int32) : st_O := if p < 0 ∨ nI nl ≤ p then (1, 0, no, nl, A) else op_hold1 no nl A p.toNatClampNeg (st_h A p.toNatClampNeg) n
def op_pick1 (no nl : Nat) (A : st_A) (j i : Nat) (n : Int32) : st_O :=
  if ¬ (1 ≤ n ∧ n ≤ 1000) then (2, 0, no, nl, A) else if ¬ A 6 i = 2 ∨ ¬ A 7 i = 0 ∨ ¬ (A 19 j + n) ≤ A 18 j then (3, 0, no, nl, A) else (0, A 19 j + n, no, nl, st_up (st_up A 19 j (A 19 j + n)) 8 i (A 8 i + 1))
def op_pick (no nl : Nat) (A : st_A) (p n : Int32) : st_O := if p < 0 ∨ nI nl ≤ p then (1, 0, no, nl, A) else op_pick1 no nl A p.toNatClampNeg (st_h A p.toNatClampNeg) n
def st_live (A : st_A) (i : Nat) : Nat := st_cnt (fun k => decide (¬ A 21 (st_l A i k) = 0)) (st_s A i) 0 0
/-- does the line j let its order go on -/
def st_ok (A : st_A) (i j : Nat) : Bool := decide (A 21 j = 0) || (decide (A 6 i = 0 → (A 18 j = A 17 j ∨ (¬ (A 16 j &&& 1) = 0 ∧ 0 < A 18 j) ∨ ¬ (A 16 j &&& 4) = 0)) && decide (A 6 i = 2 → A 19 j = A 18 j) && decide (A 6 i = 4 → ¬ (¬ (A 16 j &&& 4) = 0 ∧ 0 < A 17 j - A 20 j ∧ A 22 j = 0)))
def st_may (A : st_A) (i : Nat) : Bool := decide (A 7 i = 0) && decide (A 6 i = 0 → 0 < st_live A i) && decide (st_find (fun k => !st_ok A i (st_l A i k)) (st_s A i) 0 = none)
def st_ship (A : st_A) (i : Nat) : Nat → st_A
  | 0 => A
  | k + 1 => st_up (st_ship A i k) 20 (st_l A i k) (A 19 (st_l A i k))
def op_goOn1 (no nl : Nat) (A : st_A) (i : Nat) : st_O :=
  if 5 ≤ A 6 i then (2, 0, no, nl, A) else if st_may A i = false then (0, -1, no, nl, A) else
  (0, A 6 i + 1, no, nl, if A 6 i = 3 then st_ship (st_up (st_up A 6 i (A 6 i + 1)) 8 i (A 8 i + 1)) i (st_s A i) else st_up (st_up A 6 i (A 6 i + 1)) 8 i (A 8 i + 1))
def op_goOn (no nl : Nat) (A : st_A) (p : Int32) : st_O := if p < 0 ∨ nI no ≤ p then (1, 0, no, nl, A) else op_goOn1 no nl A p.toNatClampNeg
def op_change1 (no nl : Nat) (A : st_A) (j i : Nat) (w v : Int32) : st_O :=
  if ¬ ((w = 0 ∧ 1 ≤ v ∧ v ≤ 1000) ∨ (w = 1 ∧ 0 ≤ v ∧ v ≤ 15) ∨ (w = 2 ∧ 0 ≤ v ∧ v ≤ 7)) then (2, 0, no, nl, A) else
  if A 21 j = 0 then (3, 0, no, nl, A) else if (w = 2 ∧ 1 < A 6 i) ∨ (¬ w = 2 ∧ 0 < A 6 i) then (0, 0, no, nl, A) else
  if w = 1 ∧ ((A 16 j &&& 2) = 0 ∨ A 14 j = v) then (3, 0, no, nl, A) else
  (0, 1, no, nl, st_up (if w = 0 then st_up (st_up A 17 j v) 18 j (if A 18 j < v then A 18 j else v) else if w = 1 then st_up A 15 j v else st_up A 16 j v) 8 i (A 8 i + 1))
def op_change (no nl : Nat) (A : st_A) (p w v : Int32) : st_O := if p < 0 ∨ nI nl ≤ p then (1, 0, no, nl, A) else op_change1 no nl A p.toNatClampNeg (st_h A p.toNatClampNeg) w v
def op_move1 (no nl : Nat) (A : st_A) (i : Nat) (d : Int32) : st_O :=
  if ¬ (0 ≤ d ∧ d ≤ 10000) then (2, 0, no, nl, A) else if 4 ≤ A 6 i then (0, 0, no, nl, A) else (0, 1, no, nl, st_up (st_up A 5 i d) 8 i (A 8 i + 1))
def op_move (no nl : Nat) (A : st_A) (p d : Int32) : st_O := if p < 0 ∨ nI no ≤ p then (1, 0, no, nl, A) else op_move1 no nl A p.toNatClampNeg d
def st_cancel (A : st_A) (j i : Nat) : st_A := st_up (st_up (st_up (st_up (st_up A 21 j 0) 17 j 0) 18 j 0) 19 j 0) 8 i (A 8 i + 1)
def op_cancel1 (no nl : Nat) (A : st_A) (j i : Nat) : st_O :=
  if A 21 j = 0 ∨ 2 < A 6 i then (2, 0, no, nl, A) else (0, A 18 j, no, nl, if st_live (st_cancel A j i) i = 0 then st_up (st_cancel A j i) 6 i 6 else st_cancel A j i)
def op_cancel (no nl : Nat) (A : st_A) (p : Int32) : st_O := if p < 0 ∨ nI nl ≤ p then (1, 0, no, nl, A) else op_cancel1 no nl A p.toNatClampNeg (st_h A p.toNatClampNeg)
def st_join (A : st_A) (o x : Nat) : Nat → st_A
  | 0 => A
  | k + 1 => st_hang (st_join A o x k) o (st_l A x k)
def op_join1 (no nl : Nat) (A : st_A) (o x : Nat) : st_O :=
  if o = x ∨ ¬ A 6 o = 0 ∨ ¬ A 6 x = 0 ∨ ¬ A 2 o = A 2 x ∨ ¬ A 7 o = 0 ∨ ¬ A 7 x = 0 then (2, 0, no, nl, A) else if ¬ (A 10 o + A 10 x) ≤ 8 then (3, 0, no, nl, A) else
  (0, 0, no, nl, st_up (st_up (st_up (st_up (st_up (st_join A o x (st_s A x)) 10 x 0) 6 x 7) 9 x (nI o)) 8 o (A 8 o + 1)) 8 x (A 8 x + 1))
def op_join (no nl : Nat) (A : st_A) (p q : Int32) : st_O := if (p < 0 ∨ nI no ≤ p) ∨ (q < 0 ∨ nI no ≤ q) then (1, 0, no, nl, A) else op_join1 no nl A p.toNatClampNeg q.toNatClampNeg
def st_bits (v : Int32) : Int32 := st_sum (fun k => (v >>> (nI k &&& 31)) &&& 1) 8 0 0
def op_block1 (no nl : Nat) (A : st_A) (i : Nat) (p b : Int32) : st_O :=
  if ¬ (0 ≤ p ∧ p ≤ 7) then (2, 0, no, nl, A) else if 4 ≤ A 6 i ∨ ((A 7 i >>> (p &&& 31)) &&& 1) = (if b = 0 then 0 else 1) then (3, 0, no, nl, A) else
  (0, st_bits (A 7 i ^^^ (1 <<< (p &&& 31))), no, nl, st_up (st_up A 7 i (A 7 i ^^^ (1 <<< (p &&& 31)))) 8 i (A 8 i + 1))
def op_block (no nl : Nat) (A : st_A) (p q b : Int32) : st_O := if p < 0 ∨ nI no ≤ p then (1, 0, no, nl, A) else op_block1 no nl A p.toNatClampNeg q b
def op_backorder1 (no nl : Nat) (A : st_A) (j i : Nat) : st_O :=
  if ¬ A 6 i = 4 ∨ A 21 j = 0 ∨ (A 16 j &&& 4) = 0 ∨ A 17 j - A 20 j = 0 ∨ ¬ A 22 j = 0 then (2, 0, no, nl, A) else if nI no = 20 ∨ nI nl = 60 then (3, 0, no, nl, A) else
  (0, nI nl, no + 1, nl + 1, st_nl (st_no (st_up A 22 j 1) no (A 2 i) 0 (A 4 i) (A 5 i)) nl no (A 14 j) (A 17 j - A 20 j) (A 16 j))
def op_backorder (no nl : Nat) (A : st_A) (p : Int32) : st_O := if p < 0 ∨ nI nl ≤ p then (1, 0, no, nl, A) else op_backorder1 no nl A p.toNatClampNeg (st_h A p.toNatClampNeg)
def st_wait (A : st_A) (i : Nat) : Bool := decide (A 6 i ≤ 1 ∧ A 7 i = 0)
def st_bef (A : st_A) (x o : Nat) : Bool := decide (ev_lex (A 4 x) (A 4 o) (A 5 x) (A 5 o) (nI x) (nI o))
def st_rank (A : st_A) (no o : Nat) : Nat := st_cnt (fun x => st_wait A x && st_bef A x o) no 0 0
def op_ready (no nl : Nat) (A : st_A) (i : Int32) : st_O :=
  if i < 0 then (1, 0, no, nl, A) else match st_find (fun o => st_wait A o && decide (nI (st_rank A no o) = i)) no 0 with
  | some o => (0, nI o, no, nl, A)
  | none => (0, -1, no, nl, A)
def st_b (b : Bool) : Int32 := if b then 1 else 0
def st_short (A : st_A) (j : Nat) : Int32 := if ¬ A 21 j = 0 then A 17 j - A 20 j else 0
def op_told1 (no nl : Nat) (A : st_A) (i : Nat) (w : Int32) : st_O :=
  if ¬ (0 ≤ w ∧ w ≤ 9) then (2, 0, no, nl, A) else
  (0, if w = 0 then A 6 i else if w = 1 then A 2 i else if w = 2 then A 3 i else if w = 3 then A 4 i else if w = 4 then A 5 i else if w = 5 then A 7 i else if w = 6 then A 10 i else if w = 7 then A 8 i else if w = 8 then A 9 i else if A 6 i = 4 ∨ A 6 i = 5 then st_sum (fun k => st_short A (st_l A i k)) (st_s A i) 0 0 else 0, no, nl, A)
def op_told (no nl : Nat) (A : st_A) (p w : Int32) : st_O := if p < 0 ∨ nI no ≤ p then (1, 0, no, nl, A) else op_told1 no nl A p.toNatClampNeg w
def op_lineOf1 (no nl : Nat) (A : st_A) (i : Nat) (k : Int32) : st_O :=
  if k < 0 then (2, 0, no, nl, A) else (0, if k < A 10 i then A 11 (8 * i + k.toNatClampNeg) else -1, no, nl, A)
def op_lineOf (no nl : Nat) (A : st_A) (p k : Int32) : st_O := if p < 0 ∨ nI no ≤ p then (1, 0, no, nl, A) else op_lineOf1 no nl A p.toNatClampNeg k
def op_count (no nl : Nat) (A : st_A) (w : Int32) : st_O :=
  (0, if w = 0 then nI no else if w = 1 then nI nl else if w = 2 then st_sum (fun j => if ¬ A 21 j = 0 ∧ A 6 (st_h A j) < 4 then A 18 j else 0) nl 0 0 else if w = 3 then st_sum (fun j => A 20 j) nl 0 0 else -1, no, nl, A)
/-- the reference's cells behind an operation -/
def rm_h (m : Nat) (ma : Nat → Nat) (h : ev_AH) (o : st_O) : ev_AH := RH m ma o.1 (nI o.2.2.1) (nI o.2.2.2.1) o.2.2.2.2 h
def rm_P (m : Nat) (ma : Nat → Nat) (h : ev_AH) (o : st_O) : ev_Post := ev_pi (fun r h' => h' = RH m ma o.1 (nI o.2.2.1) (nI o.2.2.2.1) o.2.2.2.2 h ∧ (o.1 = 0 → r = o.2.1)) (fun _ _ => False)
theorem st_I_13 {no nl : Nat} {A : st_A} (hI : st_I no nl A) {j : Nat} (hj : j < nl) : ∃ i, i < no ∧ i < 20 ∧ j < 60 ∧ A 13 j = nI i ∧ st_h A j = i ∧ (nI i).toNatClampNeg = i ∧ ¬ nI i < 0 := by
  obtain ⟨⟨h1, h2⟩, h3, -⟩ := hI
  obtain ⟨i, hi, e, -⟩ := h3 j hj
  have c1 : (nI i).toNatClampNeg = i := nI_clamp (by omega)
  exact ⟨i, hi, by omega, by omega, e, by unfold st_h; rw [e]; exact c1, c1, nI_pos (by omega)⟩
