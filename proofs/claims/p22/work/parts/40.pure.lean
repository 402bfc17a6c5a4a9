/-! courses -/
/-- the law's row that counts them -/
def gC (G : Gx) (o : Nat) (v : Nat → Int32) : va_W := [(o, .inl (G.2 0, 1, .inl v))]
theorem gC_at {G : Gx} {a : va_W} {o : Nat} {v : Nat → Int32} : (a ++ gC G o v)[a.length]? = some (o, .inl (G.2 0, 1, .inl v)) := by
  rw [List.getElem?_append_right (Nat.le_refl _), Nat.sub_self]
  rfl
theorem gC_set {G : Gx} {a : va_W} {o : Nat} {v v2 : Nat → Int32} : (a ++ gC G o v).set a.length (o, .inl (G.2 0, 1, .inl v2)) = a ++ gC G o v2 := by
  rw [List.set_append_right _ _ (Nat.le_refl _), Nat.sub_self]
  rfl
def PC (G : Gx) (q : Nat → Nat) (o : Nat) (fl : Int32) (r : Int32) (w : va_W) : Prop := r = 1 ∧ ∃ (nc : Nat) (v : Nat → Int32) (w1 : va_W), w = w1 ++ gC G o v ∧ v 0 = nI nc ∧ SI G q nc fl w1
theorem PC_mk {G : Gx} {q : Nat → Nat} {o n nc t : Nat} {fl fd : Int32} {k : Nat → Int32} {wd : Nat → Nat → Nat} {wf : Nat → Nat → Int32} {wa : Nat → Nat → Nat → Int32} {cd : Nat → Nat} {cf : Nat → Nat → Int32} {v : Nat → Int32} (hv : v 0 = nI nc) (hI : IN n nc t fl fd k wf wa cf) : PC G q o fl 1 (sW G q n nc t fl fd k wd wf wa cd cf ++ gC G o v) :=
  ⟨rfl, nc, v, _, rfl, hv, n, t, fd, k, wd, wf, wa, cd, cf, rfl, hI⟩
section CRS
variable {n nc t i j : Nat} {fl fd : Int32} {k : Nat → Int32} {wf : Nat → Nat → Int32} {wa : Nat → Nat → Nat → Int32} {cf : Nat → Nat → Int32} {g : Nat → Int32}
theorem IN_course (hI : IN n nc t fl fd k wf wa cf) (hnc : nc < 10) (hg : CI g) : IN n (nc + 1) t fl fd k wf wa (va_up cf nc g) := by
  obtain ⟨h1, h2, h3, h4, h5, h6, h7⟩ := hI
  refine ⟨h1, by omega, h3, h4, h5, fun x hx => ?_, h7⟩
  by_cases h : x = nc
  · subst h; rw [va_up_self]; exact hg
  · rw [va_up_ne _ _ h]; exact h6 x (by omega)
theorem IN_cf (hI : IN n nc t fl fd k wf wa cf) (hg : CI g) : IN n nc t fl fd k wf wa (va_up cf j g) := by
  obtain ⟨h1, h2, h3, h4, h5, h6, h7⟩ := hI
  refine ⟨h1, h2, h3, h4, h5, fun x hx => ?_, h7⟩
  by_cases h : x = j
  · subst h; rw [va_up_self]; exact hg
  · rw [va_up_ne _ _ h]; exact h6 x hx
theorem enrol_or {x y : Nat} : (cf j 3 ≤ 0 ∨ (0 < cf j 3 ∧ cf j 1 < nI t) ∨ (0 < cf j 3 ∧ nI t ≤ cf j 1 ∧ ∃ z, x ≤ z ∧ z ≤ y ∧ ¬ wa i 3 z ≤ 0)) ∨ (0 < cf j 3 ∧ nI t ≤ cf j 1 ∧ ∀ z, x ≤ z → z ≤ y → wa i 3 z ≤ 0) := by
  by_cases h1 : cf j 3 ≤ 0
  · exact Or.inl (Or.inl h1)
  · have h1 := i_lt h1
    by_cases h2 : nI t ≤ cf j 1
    · by_cases h3 : ∃ z, x ≤ z ∧ z ≤ y ∧ ¬ wa i 3 z ≤ 0
      · exact Or.inl (Or.inr (Or.inr ⟨h1, h2, h3⟩))
      · refine Or.inr ⟨h1, h2, fun z hz1 hz2 => ?_⟩
        by_cases h4 : wa i 3 z ≤ 0
        · exact h4
        · exact absurd ⟨z, hz1, hz2, h4⟩ h3
    · exact Or.inl (Or.inr (Or.inl ⟨h1, i_lt h2⟩))
theorem seats_nat {z : Nat} (hz : z ≤ 8) (e : cf j 3 = nI z) (h : 0 < cf j 3) : 1 ≤ z := by
  rw [e] at h
  rcases Nat.eq_zero_or_pos z with h9 | h9
  · subst h9
    exact absurd h (by decide)
  · exact h9
/-- who has just come in can't come in again -/
theorem again {x y h z : Nat} (h0 : 1 ≤ h) (hh : h ≤ 40) (hz : z ≤ 8) (e3 : cf j 3 = nI z) (hw : nI t ≤ cf j 1) (hxy : x ≤ y) (hr : wa i 3 x = nI h) : cf j 3 ≤ 0 ∨ (0 < cf j 3 ∧ cf j 1 < nI t) ∨ (0 < cf j 3 ∧ nI t ≤ cf j 1 ∧ ∃ z, x ≤ z ∧ z ≤ y ∧ ¬ wa i 3 z ≤ 0) := by
  rcases Nat.eq_zero_or_pos z with h9 | h9
  · subst h9
    exact Or.inl (by rw [e3]; decide)
  · exact Or.inr (Or.inr ⟨by rw [e3]; exact nI_lt (a := 0) h9 (by omega), hw, x, Nat.le_refl x, hxy, by rw [hr]; exact nI_npos h0 (by omega)⟩)
theorem hrs_pos {h : Nat} (hh : h ≤ 40) (h1 : ¬ nI h < 1) : 1 ≤ h := by
  rcases Nat.eq_zero_or_pos h with h9 | h9
  · subst h9
    exact absurd (by decide) h1
  · exact h9
end CRS
