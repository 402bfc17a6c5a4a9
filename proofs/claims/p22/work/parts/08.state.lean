/-! the cells of the system and of the reference -/
/-- a worker: d addresses (0: the object, 2..7: the rows), f int fields, a rows -/
def wW (G : Gx) (d : Nat → Nat) (f : Nat → Int32) (a : Nat → Nat → Int32) : va_W := [(d 0, .inr (1, [.int (f 0), .int (f 1), .ref (d 2), .ref (d 3), .ref (d 4), .ref (d 5), .ref (d 6), .ref (d 7), .int (f 8), .int (f 9), .int (f 10), .int (f 11)])), (d 2, .inl (G.2 0, 201, .inl (a 2))), (d 3, .inl (G.2 0, 201, .inl (a 3))), (d 4, .inl (G.2 0, 201, .inl (a 4))), (d 5, .inl (G.2 0, 201, .inl (a 5))), (d 6, .inl (G.2 0, 201, .inl (a 6))), (d 7, .inl (G.2 1, 201, .inl (a 7)))]
def cC (d : Nat) (f : Nat → Int32) : va_W := [(d, .inr (0, [.int (f 0), .int (f 1), .int (f 2), .int (f 3)]))]
def wkL (G : Gx) (wd : Nat → Nat → Nat) (wf : Nat → Nat → Int32) (wa : Nat → Nat → Nat → Int32) : Nat → va_W
  | 0 => []
  | n + 1 => wkL G wd wf wa n ++ wW G (wd n) (wf n) (wa n)
def crL (cd : Nat → Nat) (cf : Nat → Nat → Int32) : Nat → va_W
  | 0 => []
  | m + 1 => crL cd cf m ++ cC (cd m) (cf m)
def rfT (d : Nat → Nat) (n : Nat) : Nat → Option Nat := fun i => if i < n then some (d i) else none
/-- the system: q addresses of the object and its three rows, n workers, m courses, t the week, fl the floor, fd the firm's debt, k the checked weeks -/
def sW (G : Gx) (q : Nat → Nat) (n m t : Nat) (fl fd : Int32) (k : Nat → Int32) (wd : Nat → Nat → Nat) (wf : Nat → Nat → Int32) (wa : Nat → Nat → Nat → Int32) (cd : Nat → Nat) (cf : Nat → Nat → Int32) : va_W :=
  (q 0, .inr (2, [.ref (q 1), .ref (q 2), .ref (q 3), .int (nI n), .int (nI m), .int (nI t), .int fl, .int fd])) :: (q 1, .inl (G.2 2, 8, .inr (.inr (.inr (.inr (rfT (fun i => wd i 0) n)))))) :: (q 2, .inl (G.2 3, 10, .inr (.inr (.inr (.inr (rfT cd m)))))) :: (q 3, .inl (G.2 1, 201, .inl k)) :: (wkL G wd wf wa n ++ crL cd cf m)
theorem wW_len {G : Gx} {d : Nat → Nat} {f : Nat → Int32} {a : Nat → Nat → Int32} : (wW G d f a).length = 7 := rfl
theorem wkL_congr {G : Gx} {wd wd' : Nat → Nat → Nat} {wf wf' : Nat → Nat → Int32} {wa wa' : Nat → Nat → Nat → Int32} : ∀ {n : Nat}, (∀ i, i < n → wd i = wd' i ∧ wf i = wf' i ∧ wa i = wa' i) → wkL G wd wf wa n = wkL G wd' wf' wa' n
  | 0, _ => rfl
  | n + 1, h => by
    have h0 := h n (Nat.lt_succ_self n)
    show wkL G wd wf wa n ++ wW G (wd n) (wf n) (wa n) = wkL G wd' wf' wa' n ++ wW G (wd' n) (wf' n) (wa' n)
    rw [wkL_congr (fun i hi => h i (Nat.lt_succ_of_lt hi)), h0.1, h0.2.1, h0.2.2]
theorem crL_congr {cd cd' : Nat → Nat} {cf cf' : Nat → Nat → Int32} : ∀ {n : Nat}, (∀ i, i < n → cd i = cd' i ∧ cf i = cf' i) → crL cd cf n = crL cd' cf' n
  | 0, _ => rfl
  | n + 1, h => by
    have h0 := h n (Nat.lt_succ_self n)
    show crL cd cf n ++ cC (cd n) (cf n) = crL cd' cf' n ++ cC (cd' n) (cf' n)
    rw [crL_congr (fun i hi => h i (Nat.lt_succ_of_lt hi)), h0.1, h0.2]
theorem wkL_mid {G : Gx} {wd : Nat → Nat → Nat} {wf : Nat → Nat → Int32} {wa : Nat → Nat → Nat → Int32} {i : Nat} : ∀ {n : Nat}, i < n → ∃ a b : va_W, a.length = 7 * i ∧ wkL G wd wf wa n = a ++ wW G (wd i) (wf i) (wa i) ++ b ∧ ∀ f' a', wkL G wd (va_up wf i f') (va_up wa i a') n = a ++ wW G (wd i) f' a' ++ b
  | 0, h => absurd h (Nat.not_lt_zero _)
  | n + 1, h => by
    have hlen : ∀ k : Nat, (wkL G wd wf wa k).length = 7 * k := by
      intro k
      induction k with
      | zero => rfl
      | succ k ih =>
        show (wkL G wd wf wa k ++ wW G (wd k) (wf k) (wa k)).length = _
        rw [List.length_append, ih, wW_len]; omega
    by_cases hi : i = n
    · subst hi
      refine ⟨wkL G wd wf wa i, [], hlen i, by simp [wkL], fun f' a' => ?_⟩
      show wkL G wd (va_up wf i f') (va_up wa i a') i ++ wW G (wd i) (va_up wf i f' i) (va_up wa i a' i) = _
      rw [va_up_self, va_up_self, List.append_nil, wkL_congr (wd' := wd) (wf' := wf) (wa' := wa) (fun j hj => ⟨rfl, va_up_ne _ _ (Nat.ne_of_lt hj), va_up_ne _ _ (Nat.ne_of_lt hj)⟩)]
    · obtain ⟨a, b, h0, h1, h2⟩ := wkL_mid (G := G) (wd := wd) (wf := wf) (wa := wa) (n := n) (i := i) (by omega)
      refine ⟨a, b ++ wW G (wd n) (wf n) (wa n), h0, ?_, fun f' a' => ?_⟩
      · show wkL G wd wf wa n ++ wW G (wd n) (wf n) (wa n) = _
        rw [h1, List.append_assoc]
      · show wkL G wd (va_up wf i f') (va_up wa i a') n ++ wW G (wd n) (va_up wf i f' n) (va_up wa i a' n) = _
        rw [h2, List.append_assoc, va_up_ne _ _ (Ne.symm hi), va_up_ne _ _ (Ne.symm hi)]
theorem wkL_len {G : Gx} {wd : Nat → Nat → Nat} {wf : Nat → Nat → Int32} {wa : Nat → Nat → Nat → Int32} (k : Nat) : (wkL G wd wf wa k).length = 7 * k := by
  induction k with
  | zero => rfl
  | succ k ih =>
    show (wkL G wd wf wa k ++ wW G (wd k) (wf k) (wa k)).length = _
    rw [List.length_append, ih, wW_len]; omega
theorem crL_mid {cd : Nat → Nat} {cf : Nat → Nat → Int32} {i : Nat} : ∀ {n : Nat}, i < n → ∃ a b : va_W, a.length = i ∧ crL cd cf n = a ++ cC (cd i) (cf i) ++ b ∧ ∀ f', crL cd (va_up cf i f') n = a ++ cC (cd i) f' ++ b
  | 0, h => absurd h (Nat.not_lt_zero _)
  | n + 1, h => by
    have hlen : ∀ k : Nat, (crL cd cf k).length = k := by
      intro k
      induction k with
      | zero => rfl
      | succ k ih =>
        show (crL cd cf k ++ cC (cd k) (cf k)).length = _
        rw [List.length_append, ih]; rfl
    by_cases hi : i = n
    · subst hi
      refine ⟨crL cd cf i, [], hlen i, by simp [crL], fun f' => ?_⟩
      show crL cd (va_up cf i f') i ++ cC (cd i) (va_up cf i f' i) = _
      rw [va_up_self, List.append_nil, crL_congr (cd' := cd) (cf' := cf) (fun j hj => ⟨rfl, va_up_ne _ _ (Nat.ne_of_lt hj)⟩)]
    · obtain ⟨a, b, h0, h1, h2⟩ := crL_mid (cd := cd) (cf := cf) (n := n) (i := i) (by omega)
      refine ⟨a, b ++ cC (cd n) (cf n), h0, ?_, fun f' => ?_⟩
      · show crL cd cf n ++ cC (cd n) (cf n) = _
        rw [h1, List.append_assoc]
      · show crL cd (va_up cf i f') n ++ cC (cd n) (va_up cf i f' n) = _
        rw [h2, List.append_assoc, va_up_ne _ _ (Ne.symm hi)]
section SW9
variable {G : Gx} {q : Nat → Nat} {n m t i : Nat} {fl fd : Int32} {k : Nat → Int32} {wd : Nat → Nat → Nat} {wf : Nat → Nat → Int32} {wa : Nat → Nat → Nat → Int32} {cd : Nat → Nat} {cf : Nat → Nat → Int32}
/-- a worker among the rest -/
theorem sW_mid (h : i < n) : ∃ a b : va_W, a.length = 4 + 7 * i ∧ sW G q n m t fl fd k wd wf wa cd cf = a ++ wW G (wd i) (wf i) (wa i) ++ b ∧ ∀ f' a', sW G q n m t fl fd k wd (va_up wf i f') (va_up wa i a') cd cf = a ++ wW G (wd i) f' a' ++ b := by
  obtain ⟨a, b, h0, h1, h2⟩ := wkL_mid (G := G) (wd := wd) (wf := wf) (wa := wa) h
  refine ⟨(q 0, .inr (2, [.ref (q 1), .ref (q 2), .ref (q 3), .int (nI n), .int (nI m), .int (nI t), .int fl, .int fd])) :: (q 1, .inl (G.2 2, 8, .inr (.inr (.inr (.inr (rfT (fun i => wd i 0) n)))))) :: (q 2, .inl (G.2 3, 10, .inr (.inr (.inr (.inr (rfT cd m)))))) :: (q 3, .inl (G.2 1, 201, .inl k)) :: a, b ++ crL cd cf m, ?_, ?_, fun f' a' => ?_⟩
  · simp only [List.length_cons]; omega
  · unfold sW
    rw [h1]
    simp only [List.cons_append, List.append_assoc]
  · unfold sW
    rw [h2]
    simp only [List.cons_append, List.append_assoc]
theorem sW_at (h : i < n) {j : Nat} {c : Nat × va_E} (hc : (wW G (wd i) (wf i) (wa i))[j]? = some c) : (sW G q n m t fl fd k wd wf wa cd cf)[4 + 7 * i + j]? = some c := by
  obtain ⟨a, b, h0, h1, -⟩ := sW_mid (G := G) (q := q) (m := m) (t := t) (fl := fl) (fd := fd) (k := k) (wd := wd) (wf := wf) (wa := wa) (cd := cd) (cf := cf) h
  rw [h1, ← h0]
  exact mid_at hc
theorem sW_set (h : i < n) {j : Nat} {c : Nat × va_E} (hj : j < 7) {f' : Nat → Int32} {a' : Nat → Nat → Int32} (hc : (wW G (wd i) (wf i) (wa i)).set j c = wW G (wd i) f' a') : (sW G q n m t fl fd k wd wf wa cd cf).set (4 + 7 * i + j) c = sW G q n m t fl fd k wd (va_up wf i f') (va_up wa i a') cd cf := by
  obtain ⟨a, b, h0, h1, h2⟩ := sW_mid (G := G) (q := q) (m := m) (t := t) (fl := fl) (fd := fd) (k := k) (wd := wd) (wf := wf) (wa := wa) (cd := cd) (cf := cf) h
  rw [h1, h2, ← h0, mid_set (by rw [wW_len]; exact hj), hc]
theorem va_up_id {α : Type} (g : Nat → α) (i : Nat) : va_up g i (g i) = g := by
  funext j
  unfold va_up
  by_cases h : j = i
  · rw [if_pos h, h]
  · rw [if_neg h]
theorem sW_setF (h : i < n) {c : Nat × va_E} {f' : Nat → Int32} (hc : (wW G (wd i) (wf i) (wa i)).set 0 c = wW G (wd i) f' (wa i)) : (sW G q n m t fl fd k wd wf wa cd cf).set (4 + 7 * i + 0) c = sW G q n m t fl fd k wd (va_up wf i f') wa cd cf := by
  rw [sW_set h (by decide) hc, va_up_id]
theorem sW_setA (h : i < n) {j : Nat} {c : Nat × va_E} (hj : j < 7) {a' : Nat → Nat → Int32} (hc : (wW G (wd i) (wf i) (wa i)).set j c = wW G (wd i) (wf i) a') : (sW G q n m t fl fd k wd wf wa cd cf).set (4 + 7 * i + j) c = sW G q n m t fl fd k wd wf (va_up wa i a') cd cf := by
  rw [sW_set h hj hc, va_up_id]
/-- a course among the rest -/
theorem sW_midC (h : i < m) : ∃ a b : va_W, a.length = 4 + 7 * n + i ∧ sW G q n m t fl fd k wd wf wa cd cf = a ++ cC (cd i) (cf i) ++ b ∧ ∀ f', sW G q n m t fl fd k wd wf wa cd (va_up cf i f') = a ++ cC (cd i) f' ++ b := by
  obtain ⟨a, b, h0, h1, h2⟩ := crL_mid (cd := cd) (cf := cf) h
  refine ⟨(q 0, .inr (2, [.ref (q 1), .ref (q 2), .ref (q 3), .int (nI n), .int (nI m), .int (nI t), .int fl, .int fd])) :: (q 1, .inl (G.2 2, 8, .inr (.inr (.inr (.inr (rfT (fun i => wd i 0) n)))))) :: (q 2, .inl (G.2 3, 10, .inr (.inr (.inr (.inr (rfT cd m)))))) :: (q 3, .inl (G.2 1, 201, .inl k)) :: (wkL G wd wf wa n ++ a), b, ?_, ?_, fun f' => ?_⟩
  · simp only [List.length_cons, List.length_append, wkL_len]; omega
  · unfold sW
    rw [h1]
    simp only [List.cons_append, List.append_assoc]
  · unfold sW
    rw [h2]
    simp only [List.cons_append, List.append_assoc]
theorem sW_atC (h : i < m) : (sW G q n m t fl fd k wd wf wa cd cf)[4 + 7 * n + i]? = some (cd i, .inr (0, [.int (cf i 0), .int (cf i 1), .int (cf i 2), .int (cf i 3)])) := by
  obtain ⟨a, b, h0, h1, -⟩ := sW_midC (G := G) (q := q) (n := n) (t := t) (fl := fl) (fd := fd) (k := k) (wd := wd) (wf := wf) (wa := wa) (cd := cd) (cf := cf) h
  rw [h1, ← h0]
  exact mid_at (k := 0) rfl
theorem sW_setC (h : i < m) {c : Nat × va_E} {f' : Nat → Int32} (hc : (cC (cd i) (cf i)).set 0 c = cC (cd i) f') : (sW G q n m t fl fd k wd wf wa cd cf).set (4 + 7 * n + i) c = sW G q n m t fl fd k wd wf wa cd (va_up cf i f') := by
  obtain ⟨a, b, h0, h1, h2⟩ := sW_midC (G := G) (q := q) (n := n) (t := t) (fl := fl) (fd := fd) (k := k) (wd := wd) (wf := wf) (wa := wa) (cd := cd) (cf := cf) h
  rw [h1, h2, ← h0]
  have h9 := mid_set (a := a) (w := cC (cd i) (cf i)) (b := b) (k := 0) (q := c) (Nat.zero_lt_succ _)
  rw [Nat.add_zero] at h9
  rw [h9, hc]
end SW9

