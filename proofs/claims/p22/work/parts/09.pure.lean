/-! numbers -/
theorem nI_m1_toInt {n : Nat} (h : n < 2 ^ 30) : (nI n - 1).toInt = (n : Int) - 1 := by
  have h1 : (1 : Int32) = nI 1 := rfl
  rw [h1, pk_sub_toInt h (by decide)]
  rfl
theorem nI_le_m1 {i n : Nat} (h : i < n) (hn : n < 2 ^ 30) : nI i ≤ nI n - 1 := by
  rw [Int32.le_iff_toInt_le, nI_m1_toInt hn, nI_toInt (by omega)]
  omega
theorem nI_m1_lt {n : Nat} {v : Int32} (hn : n < 2 ^ 30) (h : nI n ≤ v) : nI n - 1 < v := by
  rw [Int32.le_iff_toInt_le, nI_toInt (by omega)] at h
  rw [Int32.lt_iff_toInt_lt, nI_m1_toInt hn]
  omega
theorem out_m1 {n : Nat} {v : Int32} (hn : n < 2 ^ 30) (h : v < 0 ∨ nI n ≤ v) : v < 0 ∨ nI n - 1 < v := h.imp id (nI_m1_lt hn)
theorem i_nle {a b : Int32} (h : a < b) : ¬ b ≤ a := fun h2 => by
  rw [Int32.lt_iff_toInt_lt] at h
  rw [Int32.le_iff_toInt_le] at h2
  omega
theorem i_nlt {a b : Int32} (h : a ≤ b) : ¬ b < a := fun h2 => by
  rw [Int32.le_iff_toInt_le] at h
  rw [Int32.lt_iff_toInt_lt] at h2
  omega
theorem i_lt {a b : Int32} (h : ¬ b ≤ a) : a < b := by
  rw [Int32.le_iff_toInt_le] at h
  rw [Int32.lt_iff_toInt_lt]
  omega
theorem i_le {a b : Int32} (h : ¬ b < a) : a ≤ b := by
  rw [Int32.lt_iff_toInt_lt] at h
  rw [Int32.le_iff_toInt_le]
  omega
theorem rfT_in {d : Nat → Nat} {n i : Nat} (h : i < n) : va_rf (rfT d n i) = .ref (d i) := by simp [rfT, h, va_rf]
theorem rfT_out {d : Nat → Nat} {n i : Nat} (h : ¬ i < n) : va_rf (rfT d n i) = .null := by simp [rfT, h, va_rf]
/-! what the methods say, of their numbers -/
/-- the step by the cut weeks that were paid -/
def stepP (x : Int32) : Int32 := if x < 24 then (if x < 12 then 60 else 70) else 80
/-- is the week filled: c the course's hours, h the cut -/
def fillB (c h : Int32) : Int32 := if c ≤ 0 then 0 else if 2 * c < h then 0 else 1
/-- the percentage: ch children, w the cut weeks paid, b filled -/
def pctS (ch w b : Int32) : Int32 :=
  let p := if ch = 0 then stepP w else stepP w + 7
  if b = 0 then (if w < 12 then p else p + (-10)) else p + 5
/-- too much work seen: h the cut, d the hours at the door, m made up -/
def muchB (h d m : Int32) : Int32 := if d ≤ 40 - h + 2 then 0 else if m ≤ 0 then 0 else 1
/-- the firm's pay, what the fund makes up: p full pay, h the cut, c percentage, fl the floor -/
def firmP (p h : Int32) : Int32 := p * (40 - h) / 40
def fundP (p h c fl : Int32) : Int32 := if (p - firmP p h) * c / 100 < p * fl / 100 - firmP p h then p * fl / 100 - firmP p h else (p - firmP p h) * c / 100
theorem fillB_nar (c h : Int32) : narrow .boolean (.int (fillB c h)) = .int (fillB c h) := by
  unfold fillB
  split
  · rfl
  · split <;> rfl
theorem muchB_nar (h d m : Int32) : narrow .boolean (.int (muchB h d m)) = .int (muchB h d m) := by
  unfold muchB
  split
  · rfl
  · split <;> rfl
/-- g with h laid at x .. i - 1 -/
def fillR (g : Nat → Int32) (x i : Nat) (h : Int32) : Nat → Int32 := fun j => if x ≤ j ∧ j < i then h else g j
theorem fillR_0 {g : Nat → Int32} {x : Nat} {h : Int32} : fillR g x x h = g := by
  funext j
  unfold fillR
  rw [if_neg (by omega)]
theorem fillR_step {g : Nat → Int32} {x i : Nat} {h : Int32} (hxi : x ≤ i) : upd (fillR g x i h) i h = fillR g x (i + 1) h := by
  funext j
  unfold fillR upd
  by_cases h1 : j = i
  · subst h1
    rw [if_pos rfl, if_pos (by omega)]
  · rw [if_neg h1]
    show (if x ≤ j ∧ j < i then h else g j) = _
    by_cases h2 : x ≤ j ∧ j < i
    · rw [if_pos h2, if_pos (by omega)]
    · rw [if_neg h2, if_neg (by omega)]

