/-! a week is paid -/
def sumI (g : Nat → Int32) : Nat → Int32
  | 0 => 0
  | i + 1 => sumI g i + g i
def subI (x : Int32) (g : Nat → Int32) : Nat → Int32
  | 0 => x
  | i + 1 => subI x g i - g i
/-- how many have a cut in week t -/
def dueN (wa : Nat → Nat → Nat → Int32) (t : Nat) : Nat → Nat
  | 0 => 0
  | i + 1 => dueN wa t i + (if wa i 2 t ≤ 0 then 0 else 1)
theorem due_0 {wa : Nat → Nat → Nat → Int32} {t i : Nat} (h : wa i 2 t ≤ 0) : nI (dueN wa t i) + 0 = nI (dueN wa t (i + 1)) := by
  show _ = nI (dueN wa t i + (if wa i 2 t ≤ 0 then 0 else 1))
  rw [if_pos h, Int32.add_zero]; rfl
theorem due_1 {wa : Nat → Nat → Nat → Int32} {t i : Nat} (h : ¬ wa i 2 t ≤ 0) : nI (dueN wa t i) + 1 = nI (dueN wa t (i + 1)) := by
  show _ = nI (dueN wa t i + (if wa i 2 t ≤ 0 then 0 else 1))
  rw [if_neg h, nI_1]
theorem dueN_le (wa : Nat → Nat → Nat → Int32) (t : Nat) : ∀ m : Nat, dueN wa t m ≤ m
  | 0 => Nat.le_refl 0
  | m + 1 => by
    have h := dueN_le wa t m
    show dueN wa t m + (if wa m 2 t ≤ 0 then 0 else 1) ≤ m + 1
    split <;> omega
theorem dueN_0 {wa : Nat → Nat → Nat → Int32} {t : Nat} : ∀ {m : Nat}, dueN wa t m = 0 → ∀ i, i < m → wa i 2 t ≤ 0
  | 0, _, i, hi => absurd hi (Nat.not_lt_zero i)
  | m + 1, h, i, hi => by
    have h : dueN wa t m + (if wa m 2 t ≤ 0 then 0 else 1) = 0 := h
    rcases Nat.lt_succ_iff_lt_or_eq.mp hi with h1 | h1
    · exact dueN_0 (by omega) i h1
    · subst h1
      by_cases h2 : wa i 2 t ≤ 0
      · exact h2
      · rw [if_neg h2] at h; omega
theorem sumI_congr {g g2 : Nat → Int32} : ∀ {m : Nat}, (∀ i, i < m → g i = g2 i) → sumI g m = sumI g2 m
  | 0, _ => rfl
  | m + 1, h => by
    show sumI g m + g m = sumI g2 m + g2 m
    rw [sumI_congr (fun i hi => h i (Nat.lt_succ_of_lt hi)), h m (Nat.lt_succ_self m)]
theorem sumI_0 {g : Nat → Int32} : ∀ {m : Nat}, (∀ i, i < m → g i = 0) → sumI g m = 0
  | 0, _ => rfl
  | m + 1, h => by
    show sumI g m + g m = 0
    rw [sumI_0 (fun i hi => h i (Nat.lt_succ_of_lt hi)), h m (Nat.lt_succ_self m)]; rfl
theorem sumI_3 {g a b c : Nat → Int32} : ∀ {m : Nat}, (∀ i, i < m → g i = a i + b i + c i) → sumI g m = sumI a m + sumI b m + sumI c m
  | 0, _ => rfl
  | m + 1, h => by
    show sumI g m + g m = (sumI a m + a m) + (sumI b m + b m) + (sumI c m + c m)
    rw [sumI_3 (fun i hi => h i (Nat.lt_succ_of_lt hi)), h m (Nat.lt_succ_self m)]
    ac_rfl
theorem sub_due {wa : Nat → Nat → Nat → Int32} {t : Nat} {g g2 : Nat → Int32} {x : Int32} : ∀ {m : Nat}, (∀ i, i < m → g2 i = g i + (if wa i 2 t ≤ 0 then 0 else 1)) → subI (x + sumI g m) g2 m + nI (dueN wa t m) = x
  | 0, _ => by
    show x + 0 + nI 0 = x
    rw [nI_0, Int32.add_zero, Int32.add_zero]
  | m + 1, h => by
    have ih := sub_due (wa := wa) (t := t) (g := g) (g2 := g2) (x := x + g m) (m := m) (fun i hi => h i (Nat.lt_succ_of_lt hi))
    show subI (x + (sumI g m + g m)) g2 m - g2 m + nI (dueN wa t m + (if wa m 2 t ≤ 0 then 0 else 1)) = x
    rw [h m (Nat.lt_succ_self m), ← nI_add]
    have e : x + (sumI g m + g m) = x + g m + sumI g m := by ac_rfl
    rw [e]
    generalize subI (x + g m + sumI g m) g2 m = S at ih ⊢
    have e2 : nI (if wa m 2 t ≤ 0 then 0 else 1) = (if wa m 2 t ≤ 0 then 0 else 1) := by
      by_cases h2 : wa m 2 t ≤ 0
      · rw [if_pos h2, if_pos h2]; rfl
      · rw [if_neg h2, if_neg h2]; rfl
    rw [e2]
    generalize (if wa m 2 t ≤ 0 then (0 : Int32) else 1) = y
    generalize nI (dueN wa t m) = z at ih ⊢
    have e3 : S - (g m + y) + (z + y) = (S + z) + (-(g m)) := by
      rw [Int32.sub_eq_add_neg, Int32.neg_add]
      have e4 : S + (-g m - y) + (z + y) = S + z + (-g m) + (-y + y) := by
        rw [Int32.sub_eq_add_neg]; ac_rfl
      rw [e4, Int32.add_left_neg, Int32.add_zero]
    rw [e3, ih, Int32.add_assoc, Int32.add_right_neg, Int32.add_zero]
theorem payWS_at (fl : Int32) (t : Nat) (wf : Nat → Nat → Int32) (wa : Nat → Nat → Nat → Int32) : ∀ m : Nat, (∀ i, i < m → (payWS fl t wf wa m).1 i = pF (wf i) (wa i) t fl ∧ (payWS fl t wf wa m).2 i = pA (wf i) (wa i) t fl) ∧ (∀ i, m ≤ i → (payWS fl t wf wa m).1 i = wf i ∧ (payWS fl t wf wa m).2 i = wa i)
  | 0 => ⟨fun i hi => absurd hi (Nat.not_lt_zero i), fun _ _ => ⟨rfl, rfl⟩⟩
  | m + 1 => by
    obtain ⟨h1, h2⟩ := payWS_at fl t wf wa m
    obtain ⟨e1, e2⟩ := h2 m (Nat.le_refl m)
    refine ⟨fun i hi => ?_, fun i hi => ?_⟩
    · show va_up (payWS fl t wf wa m).1 m (pF ((payWS fl t wf wa m).1 m) ((payWS fl t wf wa m).2 m) t fl) i = _ ∧ va_up (payWS fl t wf wa m).2 m (pA ((payWS fl t wf wa m).1 m) ((payWS fl t wf wa m).2 m) t fl) i = _
      rw [e1, e2]
      by_cases hm : i = m
      · subst hm; rw [va_up_self, va_up_self]; exact ⟨rfl, rfl⟩
      · rw [va_up_ne _ _ hm, va_up_ne _ _ hm]; exact h1 i (by omega)
    · show va_up (payWS fl t wf wa m).1 m (pF ((payWS fl t wf wa m).1 m) ((payWS fl t wf wa m).2 m) t fl) i = _ ∧ va_up (payWS fl t wf wa m).2 m (pA ((payWS fl t wf wa m).1 m) ((payWS fl t wf wa m).2 m) t fl) i = _
      have hm : i ≠ m := by omega
      rw [va_up_ne _ _ hm, va_up_ne _ _ hm]; exact h2 i (by omega)
theorem payWT_eq (fl : Int32) (t : Nat) (wf : Nat → Nat → Int32) (wa : Nat → Nat → Nat → Int32) : ∀ m : Nat, payWT fl t wf wa m = sumI (fun i => pR (wf i) (wa i) t fl) m
  | 0 => rfl
  | m + 1 => by
    show payWT fl t wf wa m + pR ((payWS fl t wf wa m).1 m) ((payWS fl t wf wa m).2 m) t fl = sumI (fun i => pR (wf i) (wa i) t fl) m + pR (wf m) (wa m) t fl
    obtain ⟨e1, e2⟩ := (payWS_at fl t wf wa m).2 m (Nat.le_refl m)
    rw [payWT_eq fl t wf wa m, e1, e2]
theorem to100 (x : Int32) (h0 : 0 ≤ x) (h : x ≤ 100) : ∃ c : Nat, c ≤ 100 ∧ x = nI c := by
  rcases rg0 x (N := 100) (by decide) with (h1 | h1) | h1
  · exact absurd h0 (i_nle h1)
  · exact absurd h (i_nle h1)
  · exact h1
theorem stepP_3 (w : Int32) : stepP w = 60 ∨ stepP w = 70 ∨ stepP w = 80 := by
  unfold stepP
  split
  · split
    · exact Or.inl rfl
    · exact Or.inr (Or.inl rfl)
  · exact Or.inr (Or.inr rfl)
theorem pctS_nat (ch w b : Int32) : ∃ c : Nat, c ≤ 100 ∧ pctS ch w b = nI c := by
  unfold pctS
  rcases stepP_3 w with h | h | h <;> rw [h] <;> by_cases h1 : ch = 0 <;> by_cases h2 : b = 0 <;> by_cases h3 : w < 12 <;> simp only [h1, h2, h3, if_true, if_false, ite_true, ite_false] <;> exact to100 _ (by decide) (by decide)
theorem fund_nat {p h c q : Nat} (hp : p ≤ 100000) (hh : h ≤ 40) (hc : c ≤ 100) (hq : q ≤ 100) : (∃ u : Nat, u ≤ 100000 ∧ firmP (nI p) (nI h) = nI u) ∧ ∃ v : Nat, v ≤ 100000 ∧ fundP (nI p) (nI h) (nI c) (nI q) = nI v ∧ (h = 0 → v = 0) := by
  have b1 : p * (40 - h) ≤ 100000 * 40 := Nat.mul_le_mul hp (by omega)
  have b2 : p * (40 - h) / 40 ≤ p := by
    have : p * (40 - h) ≤ p * 40 := Nat.mul_le_mul (Nat.le_refl p) (by omega)
    omega
  have b0 : h = 0 → p * (40 - h) / 40 = p := fun h0 => by rw [h0]; omega
  generalize hF : p * (40 - h) / 40 = F at b2 b0
  have b3 : (p - F) * c ≤ 100000 * 100 := Nat.mul_le_mul (by omega) hc
  have b4 : (p - F) * c / 100 ≤ p - F := by
    have : (p - F) * c ≤ (p - F) * 100 := Nat.mul_le_mul (Nat.le_refl _) hc
    omega
  have b5 : p * q ≤ 100000 * 100 := Nat.mul_le_mul hp hq
  have b6 : p * q / 100 ≤ p := by
    have : p * q ≤ p * 100 := Nat.mul_le_mul (Nat.le_refl p) hq
    omega
  have e1 : firmP (nI p) (nI h) = nI F := by
    unfold firmP
    rw [show (40 : Int32) = nI 40 from rfl, pk_sub hh, pk_mul, pk_div (by omega) (by decide) (by decide), hF]
  have e2 : (nI p - nI F) * nI c / 100 = nI ((p - F) * c / 100) := by
    rw [show (100 : Int32) = nI 100 from rfl, pk_sub b2, pk_mul, pk_div (by omega) (by decide) (by decide)]
  have e3 : nI p * nI q / 100 = nI (p * q / 100) := by
    rw [show (100 : Int32) = nI 100 from rfl, pk_mul, pk_div (by omega) (by decide) (by decide)]
  refine ⟨⟨F, by omega, e1⟩, ?_⟩
  unfold fundP
  rw [e1, e2, e3]
  generalize (p - F) * c / 100 = M at b4
  generalize p * q / 100 = V at b6
  by_cases k1 : V ≤ F + M
  · have k2 : ¬ nI M < nI V - nI F := by
      rw [Int32.lt_iff_toInt_lt, pk_sub_toInt (by omega) (by omega), nI_toInt (by omega)]
      omega
    rw [if_neg k2]
    exact ⟨M, by omega, rfl, fun h0 => by have := b0 h0; omega⟩
  · have k2 : nI M < nI V - nI F := by
      rw [Int32.lt_iff_toInt_lt, pk_sub_toInt (by omega) (by omega), nI_toInt (by omega)]
      omega
    rw [if_pos k2, pk_sub (by omega)]
    exact ⟨V - F, by omega, rfl, fun h0 => by have := b0 h0; omega⟩
section PAYI
variable {n nc t : Nat} {fl fd : Int32} {k : Nat → Int32} {wf : Nat → Nat → Int32} {wa : Nat → Nat → Nat → Int32} {cf : Nat → Nat → Int32} {f : Nat → Int32} {a : Nat → Nat → Int32}
theorem pay_nat (hw : WI t f a) (ht : t < 201) (hfl : ∃ p : Nat, p ≤ 100 ∧ fl = nI p) : (∃ u : Nat, u ≤ 100000 ∧ firmP (f 0) (a 2 t) = nI u) ∧ ∃ v : Nat, v ≤ 100000 ∧ pR f a t fl = nI v ∧ (a 2 t ≤ 0 → v = 0) := by
  obtain ⟨⟨p, p1, p2, p3⟩, -, -, -, w5, -⟩ := hw
  obtain ⟨h, hh, eh⟩ := w5 t ht
  obtain ⟨v, hv, ev⟩ := hfl
  obtain ⟨cc, hc, ec⟩ := pctS_nat (f 1) (f 9) (fillB (a 3 t) (a 2 t))
  obtain ⟨g1, v9, g2, g3, g4⟩ := fund_nat p2 hh hc hv
  refine ⟨by rw [p3, eh]; exact g1, v9, g2, ?_, fun h0 => g4 ?_⟩
  · unfold pR
    rw [ec, p3, eh, ev]; exact g3
  · rw [eh] at h0
    rcases Nat.eq_zero_or_pos h with h1 | h1
    · exact h1
    · exact absurd h0 (nI_npos h1 (by omega))
theorem WI_pay (hw : WI t f a) (ht : t < 201) (hfl : ∃ p : Nat, p ≤ 100 ∧ fl = nI p) : WI (t + 1) (pF f a t fl) (pA f a t fl) := by
  obtain ⟨⟨u, u1, u2⟩, v, v1, v2, v3⟩ := pay_nat hw ht hfl
  obtain ⟨w1, w2, w3, w4, w5, w6⟩ := hw
  refine ⟨w1, w2, ?_, ?_, w5, fun j hj => ?_⟩
  · show (if a 2 t ≤ 0 then f 9 else f 9 + 1) = nI (cntC (a 2) t + (if a 2 t ≤ 0 then 0 else 1))
    by_cases h : a 2 t ≤ 0
    · rw [if_pos h, if_pos h]; exact w3
    · rw [if_neg h, if_neg h, w3, nI_1]
  · show f 10 + (firmP (f 0) (a 2 t) + pR f a t fl) = sumP (upd (a 4) t (firmP (f 0) (a 2 t))) (upd (a 5) t (pR f a t fl)) t + (upd (a 4) t (firmP (f 0) (a 2 t)) t + upd (a 5) t (pR f a t fl) t)
    rw [pk_us, pk_us, w4, sumP_congr (u := upd (a 4) t (firmP (f 0) (a 2 t))) (v := upd (a 5) t (pR f a t fl)) (u2 := a 4) (v2 := a 5) (fun j hj => ⟨pk_un (by omega), pk_un (by omega)⟩)]
  · show ∃ u v : Nat, u ≤ 100000 ∧ v ≤ 100000 ∧ upd (a 4) t (firmP (f 0) (a 2 t)) j = nI u ∧ upd (a 5) t (pR f a t fl) j = nI v ∧ (a 2 j ≤ 0 → v = 0)
    by_cases h : j = t
    · subst h
      rw [pk_us, pk_us]
      exact ⟨u, v, u1, v1, u2, v2, v3⟩
    · rw [pk_un h, pk_un h]
      exact w6 j (by omega)
theorem IN_pass (hI : IN n nc t fl fd k wf wa cf) (ht : t < 201) : IN n nc (t + 1) fl fd k (payWS fl t wf wa n).1 (payWS fl t wf wa n).2 cf := by
  obtain ⟨h1, h2, h3, h4, h5, h6, d, D, e1, e2, e3, e4⟩ := hI
  have hp := (payWS_at fl t wf wa n).1
  refine ⟨h1, h2, by omega, h4, fun i hi => ?_, h6, d, D, fun i hi => ?_, e2, e3, e4⟩
  · rw [(hp i hi).1, (hp i hi).2]
    exact WI_pay (h5 i hi) ht h4
  · rw [(hp i hi).1]
    exact e1 i hi
theorem pass_net {x y u v : Int32} : (x + (u + v)) - y = (x - y) + u + v := by
  rw [Int32.sub_eq_add_neg, Int32.sub_eq_add_neg]
  ac_rfl
end PAYI
