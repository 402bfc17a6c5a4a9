theorem nI_2 (t : Nat) : nI t + 2 = nI (t + 2) := nI_add t 2
theorem ne30 {n : Nat} (h : n < 30) : ¬ nI n = 30 := fun e => by
  have h1 := (nI_eq (a := n) (b := 30) (by omega) (by decide)).mp e
  omega
theorem ne10 {n : Nat} (h : n < 10) : ¬ nI n = 10 := fun e => by
  have h1 := (nI_eq (a := n) (b := 10) (by omega) (by decide)).mp e
  omega
/-! a week, all workers; weeks -/
def weekAM (a : Nat → Nat → Int32) (t : Nat) (cn : Nat → Nat) (nc : Nat) (fl : Int32) : Nat → Nat → Nat → Int32
  | 0 => a
  | i + 1 => payAM (weekAM a t cn nc fl i) i t (cn i) nc fl
def weekSM (a : Nat → Nat → Int32) (t : Nat) (cn : Nat → Nat) (nc : Nat) (fl acc : Int32) : Nat → Int32
  | 0 => acc
  | i + 1 => weekSM a t cn nc fl acc i + payRM (weekAM a t cn nc fl i) i t (cn i) nc fl
def passAM (a : Nat → Nat → Int32) (t : Nat) (cn : Nat → Nat) (n nc : Nat) (fl : Int32) : Nat → Nat → Nat → Int32
  | 0 => a
  | k + 1 => weekAM (passAM a t cn n nc fl k) (t + k) cn nc fl n
def passSM (a : Nat → Nat → Int32) (t : Nat) (cn : Nat → Nat) (n nc : Nat) (fl : Int32) : Nat → Int32
  | 0 => 0
  | k + 1 => weekSM (passAM a t cn n nc fl k) (t + k) cn nc fl (passSM a t cn n nc fl k) n
theorem payAM_3 (a : Nat → Nat → Int32) (i t c nc : Nat) (fl : Int32) : payAM a i t c nc fl 3 = a 3 := by
  unfold payAM
  rw [va_up_ne _ _ (by decide), va_up_ne _ _ (by decide), va_up_ne _ _ (by decide), va_up_ne _ _ (by decide)]
theorem weekAM_3 (a : Nat → Nat → Int32) (t : Nat) (cn : Nat → Nat) (nc : Nat) (fl : Int32) : ∀ i : Nat, weekAM a t cn nc fl i 3 = a 3
  | 0 => rfl
  | i + 1 => (payAM_3 _ _ _ _ _ _).trans (weekAM_3 a t cn nc fl i)
theorem passAM_3 (a : Nat → Nat → Int32) (t : Nat) (cn : Nat → Nat) (n nc : Nat) (fl : Int32) : ∀ k : Nat, passAM a t cn n nc fl k 3 = a 3
  | 0 => rfl
  | k + 1 => (weekAM_3 _ _ _ _ _ _).trans (passAM_3 a t cn n nc fl k)
/-! a check -/
def chkB (a : Nat → Nat → Int32) (x : Nat) : Int32 := if a 21 x = -1 then 0 else if a 21 x ≤ 40 - a 20 x + 2 then 0 else if a 19 x ≤ 0 then 0 else 1
def halfM (a : Nat → Nat → Int32) (x : Nat) : Int32 := if a 22 x = 0 then a 19 x / 2 else 0
def extraM (a : Nat → Nat → Int32) (x : Nat) : Int32 := if a 22 x = 0 then 0 else a 19 x * 10 / 100
def chkO (a : Nat → Nat → Int32) (j : Nat) : Nat → Nat → Int32
  | 0 => a 8
  | i + 1 => if chkB a (201 * i + j) = 0 then chkO a j i else upd (chkO a j i) i (chkO a j i i + halfM a (201 * i + j))
def chkF (a : Nat → Nat → Int32) (j : Nat) (f9 : Int32) : Nat → Int32
  | 0 => f9
  | i + 1 => if chkB a (201 * i + j) = 0 then chkF a j f9 i else chkF a j f9 i + (a 19 (201 * i + j) - halfM a (201 * i + j) + extraM a (201 * i + j))
def chkN (a : Nat → Nat → Int32) (j : Nat) : Nat → Int32
  | 0 => 0
  | i + 1 => if chkB a (201 * i + j) = 0 then chkN a j i else chkN a j i + 1
theorem chk_0 {a : Nat → Nat → Int32} {i j : Nat} {f9 : Int32} (h : chkB a (201 * i + j) = 0) : chkO a j (i + 1) = chkO a j i ∧ chkF a j f9 (i + 1) = chkF a j f9 i ∧ chkN a j (i + 1) = chkN a j i := by
  refine ⟨?_, ?_, ?_⟩
  · show (if chkB a (201 * i + j) = 0 then _ else _) = _
    rw [if_pos h]
  · show (if chkB a (201 * i + j) = 0 then _ else _) = _
    rw [if_pos h]
  · show (if chkB a (201 * i + j) = 0 then _ else _) = _
    rw [if_pos h]
theorem chk_1 {a : Nat → Nat → Int32} {i j : Nat} {f9 : Int32} (h : chkB a (201 * i + j) = 1) : chkO a j (i + 1) = upd (chkO a j i) i (chkO a j i i + halfM a (201 * i + j)) ∧ chkF a j f9 (i + 1) = chkF a j f9 i + (a 19 (201 * i + j) - halfM a (201 * i + j) + extraM a (201 * i + j)) ∧ chkN a j (i + 1) = chkN a j i + 1 := by
  have h0 : ¬ chkB a (201 * i + j) = 0 := by rw [h]; decide
  refine ⟨?_, ?_, ?_⟩
  · show (if chkB a (201 * i + j) = 0 then _ else _) = _
    rw [if_neg h0]
  · show (if chkB a (201 * i + j) = 0 then _ else _) = _
    rw [if_neg h0]
  · show (if chkB a (201 * i + j) = 0 then _ else _) = _
    rw [if_neg h0]

