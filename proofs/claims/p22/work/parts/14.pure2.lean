/-! the reference's numbers -/
theorem ix30 (i c : Nat) : (30 : Int32) * nI i + nI c = nI (30 * i + c) := by
  rw [show (30 : Int32) = nI 30 from rfl, pk_mul, nI_add]
theorem ix201 (i j : Nat) : (201 : Int32) * nI i + nI j = nI (201 * i + j) := by
  rw [show (201 : Int32) = nI 201 from rfl, pk_mul, nI_add]
theorem ix8 (i j : Nat) : (8 : Int32) * nI i + nI j = nI (8 * i + j) := by
  rw [show (8 : Int32) = nI 8 from rfl, pk_mul, nI_add]
theorem ixm30 (i : Nat) : (30 : Int32) * nI i = nI (30 * i) := by
  rw [show (30 : Int32) = nI 30 from rfl, pk_mul]
theorem ixm201 (i : Nat) : (201 : Int32) * nI i = nI (201 * i) := by
  rw [show (201 : Int32) = nI 201 from rfl, pk_mul]
/-- the cut by the first k notices from place b on: F first weeks, T last weeks, X hours -/
def cutN (F T X : Nat → Int32) (b : Nat) (w : Int32) : Nat → Int32
  | 0 => 0
  | k + 1 => if w < F (b + k) then cutN F T X b w k else if T (b + k) < w then cutN F T X b w k else X (b + k)
theorem cutN_a {F T X : Nat → Int32} {b k : Nat} {w : Int32} (h : w < F (b + k)) : cutN F T X b w (k + 1) = cutN F T X b w k := by
  show (if w < F (b + k) then _ else _) = _
  rw [if_pos h]
theorem cutN_b {F T X : Nat → Int32} {b k : Nat} {w : Int32} (h : ¬ w < F (b + k)) (h2 : T (b + k) < w) : cutN F T X b w (k + 1) = cutN F T X b w k := by
  show (if w < F (b + k) then _ else _) = _
  rw [if_neg h, if_pos h2]
theorem cutN_c {F T X : Nat → Int32} {b k : Nat} {w : Int32} (h : ¬ w < F (b + k)) (h2 : ¬ T (b + k) < w) : cutN F T X b w (k + 1) = X (b + k) := by
  show (if w < F (b + k) then _ else _) = _
  rw [if_neg h, if_neg h2]
/-- worker i's cut in week w, c notices -/
def cutM (a : Nat → Nat → Int32) (i : Nat) (w : Int32) (c : Nat) : Int32 := cutN (a 4) (a 5) (a 6) (30 * i) w c
/-- does course c fill -/
def fillC (a : Nat → Nat → Int32) (i : Nat) (w h : Int32) (c : Nat) : Int32 := if a 15 (8 * c + i) = 0 then 0 else if w < a 12 c then 0 else if a 13 c < w then 0 else if 2 * a 14 c < h then 0 else 1
def fillsN (a : Nat → Nat → Int32) (i : Nat) (w h : Int32) : Nat → Int32
  | 0 => 0
  | c + 1 => if fillsN a i w h c = 0 then fillC a i w h c else 1
/-- does course c meet course j -/
def meetC (a : Nat → Nat → Int32) (i j : Nat) (c : Nat) : Int32 := if a 15 (8 * c + i) = 0 then 0 else if a 13 j < a 12 c then 0 else if a 13 c < a 12 j then 0 else 1
def meetsN (a : Nat → Nat → Int32) (i j : Nat) : Nat → Int32
  | 0 => 0
  | c + 1 => if meetsN a i j c = 0 then meetC a i j c else 1
theorem fillsN_1 {a : Nat → Nat → Int32} {i c : Nat} {w h : Int32} (h0 : ¬ fillsN a i w h c = 0) : fillsN a i w h (c + 1) = 1 := by
  show (if fillsN a i w h c = 0 then _ else _) = _
  rw [if_neg h0]
theorem fillsN_0 {a : Nat → Nat → Int32} {i c : Nat} {w h : Int32} (h0 : fillsN a i w h c = 0) : fillsN a i w h (c + 1) = fillC a i w h c := by
  show (if fillsN a i w h c = 0 then _ else _) = _
  rw [if_pos h0]
theorem meetsN_1 {a : Nat → Nat → Int32} {i j c : Nat} (h0 : ¬ meetsN a i j c = 0) : meetsN a i j (c + 1) = 1 := by
  show (if meetsN a i j c = 0 then _ else _) = _
  rw [if_neg h0]
theorem meetsN_0 {a : Nat → Nat → Int32} {i j c : Nat} (h0 : meetsN a i j c = 0) : meetsN a i j (c + 1) = meetC a i j c := by
  show (if meetsN a i j c = 0 then _ else _) = _
  rw [if_pos h0]
theorem fillsN_01 {a : Nat → Nat → Int32} {i : Nat} {w h : Int32} : ∀ c : Nat, fillsN a i w h c = 0 ∨ fillsN a i w h c = 1
  | 0 => Or.inl rfl
  | c + 1 => by
    by_cases h0 : fillsN a i w h c = 0
    · rw [fillsN_0 h0]
      unfold fillC
      split
      · exact Or.inl rfl
      · split
        · exact Or.inl rfl
        · split
          · exact Or.inl rfl
          · split
            · exact Or.inl rfl
            · exact Or.inr rfl
    · rw [fillsN_1 h0]; exact Or.inr rfl
theorem meetsN_01 {a : Nat → Nat → Int32} {i j : Nat} : ∀ c : Nat, meetsN a i j c = 0 ∨ meetsN a i j c = 1
  | 0 => Or.inl rfl
  | c + 1 => by
    by_cases h0 : meetsN a i j c = 0
    · rw [meetsN_0 h0]
      unfold meetC
      split
      · exact Or.inl rfl
      · split
        · exact Or.inl rfl
        · split
          · exact Or.inl rfl
          · exact Or.inr rfl
    · rw [meetsN_1 h0]; exact Or.inr rfl
theorem nar01 {x : Int32} (h : x = 0 ∨ x = 1) : narrow .boolean (.int x) = .int x := by rcases h with h | h <;> subst h <;> rfl
/-- the reference's percentage: ch children, w cut weeks paid, b filled -/
def pctM (ch w b : Int32) : Int32 := stepP w + (if ch = 0 then 0 else 7) + (if b = 0 then (if w < 12 then 0 else -10) else 5)
/-- what the reference says is made up -/
def madeM (p h c fl : Int32) : Int32 := if firmP p h + (if p * fl / 100 ≤ firmP p h + (p - firmP p h) * c / 100 then (p - firmP p h) * c / 100 else p * fl / 100 - firmP p h) ≤ p then (if p * fl / 100 ≤ firmP p h + (p - firmP p h) * c / 100 then (p - firmP p h) * c / 100 else p * fl / 100 - firmP p h) else p - firmP p h
def hourM (a : Nat → Nat → Int32) (i t c : Nat) : Int32 := cutM a i (nI t) c
def pcM (a : Nat → Nat → Int32) (i t c nc : Nat) : Int32 := pctM (a 2 i) (a 7 i) (fillsN a i (nI t) (hourM a i t c) nc)
def payRM (a : Nat → Nat → Int32) (i t c nc : Nat) (fl : Int32) : Int32 := madeM (a 1 i) (hourM a i t c) (pcM a i t c nc) fl
/-- the rows behind pays(i) in week t -/
def payAM (a : Nat → Nat → Int32) (i t c nc : Nat) (fl : Int32) : Nat → Nat → Int32 :=
  va_up (va_up (va_up (va_up a 18 (upd (a 18) (201 * i + t) (firmP (a 1 i) (hourM a i t c)))) 19 (upd (a 19) (201 * i + t) (payRM a i t c nc fl))) 20 (upd (a 20) (201 * i + t) (hourM a i t c))) 7 (upd (a 7) i (a 7 i + (if hourM a i t c ≤ 0 then 0 else 1)))
/-- -owed + paid + made over k weeks -/
def netN (a : Nat → Nat → Int32) (i : Nat) : Nat → Int32
  | 0 => -(a 8 i)
  | k + 1 => netN a i k + (a 18 (201 * i + k) + a 19 (201 * i + k))

