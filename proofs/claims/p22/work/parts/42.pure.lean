/-! the law's own steps -/
theorem cntC_0 : ∀ m : Nat, cntC (fun _ => 0) m = 0
  | 0 => rfl
  | m + 1 => by
    show cntC (fun _ => 0) m + (if (0 : Int32) ≤ 0 then 0 else 1) = 0
    rw [cntC_0 m, if_pos (by decide)]
theorem sumP_0 : ∀ m : Nat, sumP (fun _ => 0) (fun _ => 0) m = 0
  | 0 => rfl
  | m + 1 => by
    show sumP (fun _ => 0) (fun _ => 0) m + (0 + 0) = 0
    rw [sumP_0 m]; rfl
section LWI
variable {n nc t : Nat} {fl fd : Int32} {k : Nat → Int32} {wf : Nat → Nat → Int32} {wa : Nat → Nat → Nat → Int32} {cf : Nat → Nat → Int32}
theorem IN_add (hI : IN n nc t fl fd k wf wa cf) (hn : n < 8) {p : Nat} {v w : Int32} (h1 : 1 ≤ p) (h2 : p ≤ 100000) (hv : v = nI p) : IN (n + 1) nc t fl fd k (va_up wf n (va_up (va_up (fun _ => 0) 0 v) 1 w)) (va_up wa n (fun _ _ => 0)) cf := by
  obtain ⟨g1, g2, g3, g4, g5, g6, d, D, e1, e2, e3, e4⟩ := hI
  refine ⟨by omega, g2, g3, g4, fun x hx => ?_, g6, fun y => if y = n then 0 else d y, D, fun x hx => ?_, e2, ?_, e4⟩
  · by_cases h : x = n
    · subst h
      rw [va_up_self, va_up_self]
      refine ⟨⟨p, h1, h2, hv⟩, ⟨0, by omega, rfl⟩, ?_, ?_, fun j hj => ⟨0, by omega, rfl⟩, fun j hj => ⟨0, 0, by omega, by omega, rfl, rfl, fun _ => rfl⟩⟩
      · show (0 : Int32) = nI (cntC (fun _ => 0) t)
        rw [cntC_0]; rfl
      · show (0 : Int32) = sumP (fun _ => 0) (fun _ => 0) t
        rw [sumP_0]
    · rw [va_up_ne _ _ h, va_up_ne _ _ h]; exact g5 x (by omega)
  · show _ = nI (if x = n then 0 else d x)
    by_cases h : x = n
    · subst h
      rw [va_up_self, if_pos rfl]; rfl
    · rw [va_up_ne _ _ h, if_neg h]; exact e1 x (by omega)
  · show sumN (fun y => if y = n then 0 else d y) n + (if n = n then 0 else d n) ≤ D
    rw [if_pos rfl, sumN_congr (d2 := d) (fun y hy => if_neg (by omega))]
    omega
theorem IN_floor (hI : IN n nc t fl fd k wf wa cf) {fl2 : Int32} (h : ∃ p : Nat, p ≤ 100 ∧ fl2 = nI p) : IN n nc t fl2 fd k wf wa cf :=
  ⟨hI.1, hI.2.1, hI.2.2.1, h, hI.2.2.2.2⟩
end LWI
theorem IN_0 : IN 0 0 0 50 0 (fun _ => 0) (fun _ _ => 0) (fun _ _ _ => 0) (fun _ _ => 0) :=
  ⟨by omega, by omega, by omega, ⟨50, by omega, rfl⟩, fun i hi => absurd hi (Nat.not_lt_zero i), fun i hi => absurd hi (Nat.not_lt_zero i), fun _ => 0, 0, fun i hi => absurd hi (Nat.not_lt_zero i), rfl, Nat.le_refl 0, Nat.zero_le _⟩
