/-! a week is checked -/
theorem ckF_ne {wf : Nat → Nat → Int32} {wa : Nat → Nat → Nat → Int32} {j i r : Nat} (hr : r ≠ 11) : ∀ m : Nat, ckF wf wa j m i r = wf i r
  | 0 => rfl
  | m + 1 => by
    by_cases h : ckB wa j m = 0
    · rw [(ck_0 (fd := 0) h).1]; exact ckF_ne hr m
    · by_cases h2 : wa m 7 j = 0
      · rw [(ck_n (fd := 0) h h2).1]
        by_cases hi : i = m
        · subst hi
          rw [va_up_self, va_up_ne _ _ hr]
          exact ckF_ne hr i
        · rw [va_up_ne _ _ hi]; exact ckF_ne hr m
      · rw [(ck_m (fd := 0) h h2).1]; exact ckF_ne hr m
theorem ckF_hi {wf : Nat → Nat → Int32} {wa : Nat → Nat → Nat → Int32} {j i : Nat} : ∀ m : Nat, m ≤ i → ckF wf wa j m i = wf i
  | 0, _ => rfl
  | m + 1, hm => by
    have hi : i ≠ m := by omega
    by_cases h : ckB wa j m = 0
    · rw [(ck_0 (fd := 0) h).1]; exact ckF_hi m (by omega)
    · by_cases h2 : wa m 7 j = 0
      · rw [(ck_n (fd := 0) h h2).1, va_up_ne _ _ hi]; exact ckF_hi m (by omega)
      · rw [(ck_m (fd := 0) h h2).1]; exact ckF_hi m (by omega)
/-- a worker's debt stays, or half of what was made up comes to it -/
theorem ckF_11 {wf : Nat → Nat → Int32} {wa : Nat → Nat → Nat → Int32} {j i : Nat} : ∀ m : Nat, ckF wf wa j m i 11 = wf i 11 ∨ ckF wf wa j m i 11 = wf i 11 + wa i 5 j / 2
  | 0 => Or.inl rfl
  | m + 1 => by
    by_cases h : ckB wa j m = 0
    · rw [(ck_0 (fd := 0) h).1]; exact ckF_11 m
    · by_cases h2 : wa m 7 j = 0
      · rw [(ck_n (fd := 0) h h2).1]
        by_cases hi : i = m
        · subst hi
          rw [va_up_self, va_up_self, ckF_hi (wf := wf) (wa := wa) (j := j) i (Nat.le_refl i)]
          exact Or.inr rfl
        · rw [va_up_ne _ _ hi]; exact ckF_11 m
      · rw [(ck_m (fd := 0) h h2).1]; exact ckF_11 m
theorem ckC_nat (wf : Nat → Nat → Int32) (wa : Nat → Nat → Nat → Int32) (j : Nat) (fd : Int32) : ∀ m : Nat, ∃ c : Nat, c ≤ m ∧ ckC wa j m = nI c ∧ (c = 0 → ckF wf wa j m = wf ∧ ckD wa j fd m = fd) ∧ ((∃ i, i < m ∧ ¬ ckB wa j i = 0) → 1 ≤ c)
  | 0 => ⟨0, Nat.le_refl 0, rfl, fun _ => ⟨rfl, rfl⟩, fun ⟨i, hi, _⟩ => absurd hi (Nat.not_lt_zero i)⟩
  | m + 1 => by
    obtain ⟨c, h1, h2, h3, h4⟩ := ckC_nat wf wa j fd m
    by_cases h : ckB wa j m = 0
    · obtain ⟨e1, -, e3⟩ := ck_0 (wf := wf) (fd := fd) h
      refine ⟨c, by omega, by rw [e3]; exact h2, fun h0 => ?_, fun ⟨i, hi, hb⟩ => h4 ⟨i, ?_, hb⟩⟩
      · rw [e1, (ck_0 (wf := wf) (fd := fd) h).2.1]; exact h3 h0
      · rcases Nat.lt_succ_iff_lt_or_eq.mp hi with q | q
        · exact q
        · subst q; exact absurd h hb
    · refine ⟨c + 1, by omega, ?_, fun h0 => absurd h0 (Nat.succ_ne_zero c), fun _ => by omega⟩
      by_cases h7 : wa m 7 j = 0
      · rw [(ck_n (wf := wf) (fd := fd) h h7).2.2, h2, nI_1]
      · rw [(ck_m (wf := wf) (fd := fd) h h7).2.2, h2, nI_1]
theorem sumN_congr {d d2 : Nat → Nat} : ∀ {m : Nat}, (∀ i, i < m → d i = d2 i) → sumN d m = sumN d2 m
  | 0, _ => rfl
  | m + 1, h => by
    show sumN d m + d m = sumN d2 m + d2 m
    rw [sumN_congr (fun i hi => h i (Nat.lt_succ_of_lt hi)), h m (Nat.lt_succ_self m)]
theorem sumN_add {d : Nat → Nat} {i x : Nat} : ∀ {m : Nat}, i < m → sumN (fun y => if y = i then d y + x else d y) m = sumN d m + x
  | 0, h => absurd h (Nat.not_lt_zero i)
  | m + 1, h => by
    show sumN (fun y => if y = i then d y + x else d y) m + (if m = i then d m + x else d m) = sumN d m + d m + x
    by_cases hm : m = i
    · rw [if_pos hm, sumN_congr (d2 := d) (fun y hy => if_neg (by omega))]
      omega
    · rw [if_neg hm, sumN_add (show i < m by omega)]
      omega
theorem cntK_upd {k : Nat → Int32} {j : Nat} (hk : k j = 0) : ∀ m : Nat, cntK (upd k j 1) m = cntK k m + (if j < m then 1 else 0)
  | 0 => by rw [if_neg (Nat.not_lt_zero j)]; rfl
  | m + 1 => by
    show cntK (upd k j 1) m + (if upd k j 1 m = 0 then 0 else 1) = cntK k m + (if k m = 0 then 0 else 1) + _
    rw [cntK_upd hk m]
    by_cases hm : m = j
    · subst hm
      rw [pk_us, if_neg (Nat.lt_irrefl m), if_neg (by decide), if_pos hk, if_pos (Nat.lt_succ_self m)]
    · rw [pk_un hm]
      by_cases h : j < m
      · rw [if_pos h, if_pos (show j < m + 1 by omega)]; omega
      · rw [if_neg h, if_neg (show ¬ j < m + 1 by omega)]; omega
theorem ck_debts {wf : Nat → Nat → Int32} {wa : Nat → Nat → Nat → Int32} {j n D : Nat} {fd : Int32} {d : Nat → Nat} (h1 : ∀ i, i < n → wf i 11 = nI (d i)) (h2 : fd = nI D) (h3 : sumN d n ≤ D) (hv : ∀ i, i < n → ∃ v : Nat, v ≤ 100000 ∧ wa i 5 j = nI v) : ∀ m : Nat, m ≤ n → ∃ (d2 : Nat → Nat) (D2 : Nat), (∀ i, i < n → ckF wf wa j m i 11 = nI (d2 i)) ∧ ckD wa j fd m = nI D2 ∧ sumN d2 n ≤ D2 ∧ D ≤ D2 ∧ D2 ≤ D + 110000 * m
  | 0, _ => ⟨d, D, h1, h2, h3, Nat.le_refl D, by omega⟩
  | m + 1, hm => by
    obtain ⟨d2, D2, e1, e2, e3, e4, e5⟩ := ck_debts h1 h2 h3 hv m (by omega)
    by_cases h : ckB wa j m = 0
    · obtain ⟨q1, q2, -⟩ := ck_0 (wf := wf) (fd := fd) h
      rw [q1, q2]
      exact ⟨d2, D2, e1, e2, e3, e4, by omega⟩
    · obtain ⟨v, v1, v2⟩ := hv m (by omega)
      by_cases h7 : wa m 7 j = 0
      · obtain ⟨q1, q2, -⟩ := ck_n (wf := wf) (fd := fd) h h7
        rw [q1, q2]
        have hh : wa m 5 j / 2 = nI (v / 2) := by rw [v2, show (2 : Int32) = nI 2 from rfl, pk_div (by omega) (by decide) (by decide)]
        refine ⟨fun y => if y = m then d2 y + v / 2 else d2 y, D2 + (v - v / 2), fun i hi => ?_, ?_, ?_, by omega, by omega⟩
        · by_cases him : i = m
          · subst him
            rw [va_up_self, va_up_self, e1 i hi, hh, nI_add]
            show _ = nI (if i = i then _ else _)
            rw [if_pos rfl]
          · rw [va_up_ne _ _ him, e1 i hi]
            show _ = nI (if i = m then _ else _)
            rw [if_neg him]
        · rw [e2, hh, v2, pk_sub (by omega), nI_add]
        · rw [sumN_add (show m < n by omega)]
          omega
      · obtain ⟨q1, q2, -⟩ := ck_m (wf := wf) (fd := fd) h h7
        rw [q1, q2]
        have hh : wa m 5 j * 10 / 100 = nI (v * 10 / 100) := by rw [v2, show (10 : Int32) = nI 10 from rfl, show (100 : Int32) = nI 100 from rfl, pk_mul, pk_div (by omega) (by decide) (by decide)]
        refine ⟨d2, D2 + (v + v * 10 / 100), e1, ?_, by omega, by omega, by omega⟩
        rw [e2, hh, v2, nI_add, nI_add]
section CHKI
variable {n nc t j : Nat} {fl fd : Int32} {k : Nat → Int32} {wf : Nat → Nat → Int32} {wa : Nat → Nat → Nat → Int32} {cf : Nat → Nat → Int32}
theorem IN_check (hI : IN n nc t fl fd k wf wa cf) (hj : j < t) (hk : k j = 0) : IN n nc t fl (ckD wa j fd n) (upd k j 1) (ckF wf wa j n) wa cf ∧ ∃ D D2 : Nat, fd = nI D ∧ ckD wa j fd n = nI D2 ∧ D ≤ D2 ∧ D2 < 2 ^ 31 := by
  obtain ⟨h1, h2, h3, h4, h5, h6, d, D, e1, e2, e3, e4⟩ := hI
  obtain ⟨d2, D2, q1, q2, q3, q4, q5⟩ := ck_debts (wf := wf) (wa := wa) (j := j) (fd := fd) e1 e2 e3 (fun i hi => by
    obtain ⟨-, -, -, -, -, w6⟩ := h5 i hi
    obtain ⟨-, v, -, v1, -, v2, -⟩ := w6 j hj
    exact ⟨v, v1, v2⟩) n (Nat.le_refl n)
  have hc := cntK_upd hk 201
  rw [if_pos (by omega)] at hc
  have hc2 := cntK_le (upd k j 1) 201
  have hD2 : D2 ≤ 880000 * cntK (upd k j 1) 201 := by rw [hc]; omega
  refine ⟨⟨h1, h2, h3, h4, fun i hi => ?_, h6, d2, D2, q1, q2, q3, hD2⟩, D, D2, e2, q2, q4, by omega⟩
  obtain ⟨w1, w2, w3, w4, w5, w6⟩ := h5 i hi
  refine ⟨?_, ?_, ?_, ?_, w5, w6⟩
  · rw [ckF_ne (by decide)]; exact w1
  · rw [ckF_ne (by decide)]; exact w2
  · rw [ckF_ne (by decide)]; exact w3
  · rw [ckF_ne (by decide)]; exact w4
theorem much_due {h d m : Int32} {a : Nat} (ha : a ≤ 40) (eh : h = nI a) (h1 : ¬ d ≤ 42 - h) (h2 : ¬ m ≤ 0) : ¬ muchB h d m = 0 := by
  subst eh
  have e : (40 : Int32) - nI a + 2 = 42 - nI a := by
    rw [show (40 : Int32) = nI 40 from rfl, show (42 : Int32) = nI 42 from rfl, show (2 : Int32) = nI 2 from rfl, pk_sub ha, pk_sub (by omega), nI_add, show 40 - a + 2 = 42 - a by omega]
  unfold muchB
  rw [e, if_neg h1, if_neg h2]
  decide
end CHKI
theorem dif_half {a b x : Int32} (h : a = b ∨ a = b + x) (h0 : ¬ a - b = 0) : a - b = x := by
  rcases h with h | h
  · subst h
    rw [Int32.sub_eq_add_neg, Int32.add_right_neg] at h0
    exact absurd rfl h0
  · subst h
    rw [Int32.sub_eq_add_neg, Int32.add_comm b x, Int32.add_assoc, Int32.add_right_neg, Int32.add_zero]
