theorem va_up_eq {α : Type} {g : Nat → α} {k : Nat} {v : α} (h : g k = v) : va_up g k v = g := by
  rw [← h]; exact va_up_id g k
/-! the system's weeks: one worker, all, many weeks -/
def pR (f : Nat → Int32) (a : Nat → Nat → Int32) (j : Nat) (fl : Int32) : Int32 := fundP (f 0) (a 2 j) (pctS (f 1) (f 9) (fillB (a 3 j) (a 2 j))) fl
def pF (f : Nat → Int32) (a : Nat → Nat → Int32) (j : Nat) (fl : Int32) : Nat → Int32 := va_up (va_up f 10 (f 10 + (firmP (f 0) (a 2 j) + pR f a j fl))) 9 (if a 2 j ≤ 0 then f 9 else f 9 + 1)
def pA (f : Nat → Int32) (a : Nat → Nat → Int32) (j : Nat) (fl : Int32) : Nat → Nat → Int32 := va_up (va_up a 4 (upd (a 4) j (firmP (f 0) (a 2 j)))) 5 (upd (a 5) j (pR f a j fl))
def payWS (fl : Int32) (t : Nat) (wf : Nat → Nat → Int32) (wa : Nat → Nat → Nat → Int32) : Nat → (Nat → Nat → Int32) × (Nat → Nat → Nat → Int32)
  | 0 => (wf, wa)
  | i + 1 => (va_up (payWS fl t wf wa i).1 i (pF ((payWS fl t wf wa i).1 i) ((payWS fl t wf wa i).2 i) t fl), va_up (payWS fl t wf wa i).2 i (pA ((payWS fl t wf wa i).1 i) ((payWS fl t wf wa i).2 i) t fl))
def payWT (fl : Int32) (t : Nat) (wf : Nat → Nat → Int32) (wa : Nat → Nat → Nat → Int32) : Nat → Int32
  | 0 => 0
  | i + 1 => payWT fl t wf wa i + pR ((payWS fl t wf wa i).1 i) ((payWS fl t wf wa i).2 i) t fl
def passWS (fl : Int32) (t n : Nat) (wf : Nat → Nat → Int32) (wa : Nat → Nat → Nat → Int32) : Nat → (Nat → Nat → Int32) × (Nat → Nat → Nat → Int32)
  | 0 => (wf, wa)
  | k + 1 => payWS fl (t + k) (passWS fl t n wf wa k).1 (passWS fl t n wf wa k).2 n
def passWT (fl : Int32) (t n : Nat) (wf : Nat → Nat → Int32) (wa : Nat → Nat → Nat → Int32) : Nat → Int32
  | 0 => 0
  | k + 1 => passWT fl t n wf wa k + payWT fl (t + k) (passWS fl t n wf wa k).1 (passWS fl t n wf wa k).2 n
/-! the system's check -/
def ckB (wa : Nat → Nat → Nat → Int32) (j i : Nat) : Int32 := muchB (wa i 2 j) (wa i 6 j) (wa i 5 j)
def ckF (wf : Nat → Nat → Int32) (wa : Nat → Nat → Nat → Int32) (j : Nat) : Nat → Nat → Nat → Int32
  | 0 => wf
  | i + 1 => if ckB wa j i = 0 then ckF wf wa j i else if wa i 7 j = 0 then va_up (ckF wf wa j i) i (va_up (ckF wf wa j i i) 11 (ckF wf wa j i i 11 + wa i 5 j / 2)) else ckF wf wa j i
def ckD (wa : Nat → Nat → Nat → Int32) (j : Nat) (fd : Int32) : Nat → Int32
  | 0 => fd
  | i + 1 => if ckB wa j i = 0 then ckD wa j fd i else if wa i 7 j = 0 then ckD wa j fd i + (wa i 5 j - wa i 5 j / 2) else ckD wa j fd i + (wa i 5 j + wa i 5 j * 10 / 100)
def ckC (wa : Nat → Nat → Nat → Int32) (j : Nat) : Nat → Int32
  | 0 => 0
  | i + 1 => if ckB wa j i = 0 then ckC wa j i else ckC wa j i + 1
theorem ck_0 {wf : Nat → Nat → Int32} {wa : Nat → Nat → Nat → Int32} {j i : Nat} {fd : Int32} (h : ckB wa j i = 0) : ckF wf wa j (i + 1) = ckF wf wa j i ∧ ckD wa j fd (i + 1) = ckD wa j fd i ∧ ckC wa j (i + 1) = ckC wa j i := by
  refine ⟨?_, ?_, ?_⟩
  · show (if ckB wa j i = 0 then _ else _) = _
    rw [if_pos h]
  · show (if ckB wa j i = 0 then _ else _) = _
    rw [if_pos h]
  · show (if ckB wa j i = 0 then _ else _) = _
    rw [if_pos h]
theorem ck_n {wf : Nat → Nat → Int32} {wa : Nat → Nat → Nat → Int32} {j i : Nat} {fd : Int32} (h : ¬ ckB wa j i = 0) (h2 : wa i 7 j = 0) : ckF wf wa j (i + 1) = va_up (ckF wf wa j i) i (va_up (ckF wf wa j i i) 11 (ckF wf wa j i i 11 + wa i 5 j / 2)) ∧ ckD wa j fd (i + 1) = ckD wa j fd i + (wa i 5 j - wa i 5 j / 2) ∧ ckC wa j (i + 1) = ckC wa j i + 1 := by
  refine ⟨?_, ?_, ?_⟩
  · show (if ckB wa j i = 0 then _ else _) = _
    rw [if_neg h, if_pos h2]
  · show (if ckB wa j i = 0 then _ else _) = _
    rw [if_neg h, if_pos h2]
  · show (if ckB wa j i = 0 then _ else _) = _
    rw [if_neg h]
theorem ck_m {wf : Nat → Nat → Int32} {wa : Nat → Nat → Nat → Int32} {j i : Nat} {fd : Int32} (h : ¬ ckB wa j i = 0) (h2 : ¬ wa i 7 j = 0) : ckF wf wa j (i + 1) = ckF wf wa j i ∧ ckD wa j fd (i + 1) = ckD wa j fd i + (wa i 5 j + wa i 5 j * 10 / 100) ∧ ckC wa j (i + 1) = ckC wa j i + 1 := by
  refine ⟨?_, ?_, ?_⟩
  · show (if ckB wa j i = 0 then _ else _) = _
    rw [if_neg h, if_neg h2]
  · show (if ckB wa j i = 0 then _ else _) = _
    rw [if_neg h, if_neg h2]
  · show (if ckB wa j i = 0 then _ else _) = _
    rw [if_neg h]

