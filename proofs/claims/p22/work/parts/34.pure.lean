/-! the state between the law's calls: what keeps it -/
theorem inR {n : Nat} {w : Int32} (hn : n < 2 ^ 31) (h1 : ¬ w < 0) (h2 : w < nI n) : ∃ i : Nat, i < n ∧ w = nI i := by
  rcases pk_ix w hn with h | h | h
  · exact absurd h h1
  · exact absurd h2 (i_nlt h)
  · exact h
theorem okN {f y z lo : Int32} {m : Nat} (hm : z ≤ nI m) (hm9 : m < 1000) (h1 : ¬ f < 0) (h2 : ¬ 200 < f) (h3 : ¬ y < f) (h4 : ¬ 200 < y) (h5 : ¬ z < lo) (hlo : ¬ lo < 0) : ∃ a b h : Nat, a ≤ b ∧ b ≤ 200 ∧ h ≤ m ∧ f = nI a ∧ y = nI b ∧ z = nI h := by
  obtain ⟨a, ha, rfl⟩ := nI_of2 (M := 200) (n := 200) rfl h1 (i_le h2)
  have hy0 : ¬ y < 0 := by
    intro h9
    apply h3
    rw [Int32.lt_iff_toInt_lt] at h9 ⊢
    rw [nI_toInt (by omega)]
    have h0 : (0 : Int32).toInt = 0 := rfl
    omega
  obtain ⟨b, hb, rfl⟩ := nI_of2 (M := 200) (n := 200) rfl hy0 (i_le h4)
  have hz0 : ¬ z < 0 := by
    intro h9
    apply h5
    rw [Int32.lt_iff_toInt_lt] at h9 hlo ⊢
    omega
  obtain ⟨h, hh, rfl⟩ := nI_of2 (M := nI m) (n := m) (nI_toInt (by omega)) hz0 hm
  refine ⟨a, b, h, ?_, hb, hh, rfl, rfl, rfl⟩
  rcases Nat.lt_or_ge b a with h9 | h9
  · exact absurd (nI_lt h9 (by omega)) h3
  · exact h9
theorem fillR_i {g : Nat → Int32} {x i j : Nat} {h : Int32} (h1 : x ≤ j) (h2 : j < i) : fillR g x i h j = h := by
  unfold fillR
  rw [if_pos ⟨h1, h2⟩]
theorem fillR_o {g : Nat → Int32} {x i j : Nat} {h : Int32} (h1 : j < x ∨ i ≤ j) : fillR g x i h j = g j := by
  unfold fillR
  rw [if_neg (by omega)]
theorem cntC_congr {c c2 : Nat → Int32} : ∀ {m : Nat}, (∀ j, j < m → c j = c2 j) → cntC c m = cntC c2 m
  | 0, _ => rfl
  | m + 1, h => by
    show cntC c m + (if c m ≤ 0 then 0 else 1) = cntC c2 m + (if c2 m ≤ 0 then 0 else 1)
    rw [cntC_congr (fun j hj => h j (Nat.lt_succ_of_lt hj)), h m (Nat.lt_succ_self m)]
theorem sumP_congr {u v u2 v2 : Nat → Int32} : ∀ {m : Nat}, (∀ j, j < m → u j = u2 j ∧ v j = v2 j) → sumP u v m = sumP u2 v2 m
  | 0, _ => rfl
  | m + 1, h => by
    show sumP u v m + (u m + v m) = sumP u2 v2 m + (u2 m + v2 m)
    rw [sumP_congr (fun j hj => h j (Nat.lt_succ_of_lt hj)), (h m (Nat.lt_succ_self m)).1, (h m (Nat.lt_succ_self m)).2]
section INW
variable {n nc t i : Nat} {fl fd : Int32} {k : Nat → Int32} {wf : Nat → Nat → Int32} {wa : Nat → Nat → Nat → Int32} {cf : Nat → Nat → Int32} {f' : Nat → Int32} {a' : Nat → Nat → Int32}
theorem IN_w (hI : IN n nc t fl fd k wf wa cf) (hw : WI t f' a') (h11 : f' 11 = wf i 11) : IN n nc t fl fd k (va_up wf i f') (va_up wa i a') cf := by
  obtain ⟨h1, h2, h3, h4, h5, h6, d, D, e1, e2, e3, e4⟩ := hI
  refine ⟨h1, h2, h3, h4, fun x hx => ?_, h6, d, D, fun x hx => ?_, e2, e3, e4⟩
  · by_cases hxi : x = i
    · subst hxi; rw [va_up_self, va_up_self]; exact hw
    · rw [va_up_ne _ _ hxi, va_up_ne _ _ hxi]; exact h5 x hx
  · by_cases hxi : x = i
    · subst hxi; rw [va_up_self, h11]; exact e1 x hx
    · rw [va_up_ne _ _ hxi]; exact e1 x hx
theorem IN_a (hI : IN n nc t fl fd k wf wa cf) (hw : WI t (wf i) a') : IN n nc t fl fd k wf (va_up wa i a') cf := by
  have h := IN_w (i := i) (f' := wf i) (a' := a') hI hw rfl
  rw [va_up_id] at h
  exact h
theorem IN_notice (hI : IN n nc t fl fd k wf wa cf) (hi : i < n) {cn : Nat} (e8 : wf i 8 = nI cn) (hcn : cn < 30) {x y h : Nat} (htx : t + 2 ≤ x) (hh : h ≤ 40) : IN n nc t fl fd k (va_up wf i (va_up (wf i) 8 (wf i 8 + 1))) (va_up wa i (va_up (wa i) 2 (fillR (wa i 2) x (y + 1) (nI h)))) cf := by
  obtain ⟨w1, w2, w3, w4, w5, w6⟩ := hI.2.2.2.2.1 i hi
  refine IN_w hI ⟨w1, ⟨cn + 1, by omega, ?_⟩, ?_, w4, fun j hj => ?_, fun j hj => ?_⟩ rfl
  · rw [va_up_self, e8, nI_1]
  · show wf i 9 = nI (cntC (fillR (wa i 2) x (y + 1) (nI h)) t)
    rw [w3, cntC_congr (c := wa i 2) (c2 := fillR (wa i 2) x (y + 1) (nI h)) (fun j hj => (fillR_o (Or.inl (by omega))).symm)]
  · show ∃ h9 : Nat, h9 ≤ 40 ∧ fillR (wa i 2) x (y + 1) (nI h) j = nI h9
    by_cases h9 : x ≤ j ∧ j < y + 1
    · exact ⟨h, hh, fillR_i h9.1 h9.2⟩
    · rw [fillR_o (by omega)]; exact w5 j hj
  · obtain ⟨u, v, q1, q2, q3, q4, q5⟩ := w6 j hj
    refine ⟨u, v, q1, q2, q3, q4, fun h0 => q5 ?_⟩
    have h0 : fillR (wa i 2) x (y + 1) (nI h) j ≤ 0 := h0
    rw [fillR_o (Or.inl (by omega))] at h0
    exact h0
/-- rows that the state says nothing of: doors, mails, courses -/
theorem IN_row (hI : IN n nc t fl fd k wf wa cf) (hi : i < n) {r : Nat} {g : Nat → Int32} (h2 : r ≠ 2) (h4 : r ≠ 4) (h5 : r ≠ 5) : IN n nc t fl fd k wf (va_up wa i (va_up (wa i) r g)) cf := by
  obtain ⟨w1, w2, w3, w4, w5, w6⟩ := hI.2.2.2.2.1 i hi
  refine IN_a hI ⟨w1, w2, ?_, ?_, ?_, ?_⟩
  · rw [va_up_ne _ _ (Ne.symm h2)]; exact w3
  · rw [va_up_ne _ _ (Ne.symm h4), va_up_ne _ _ (Ne.symm h5)]; exact w4
  · rw [va_up_ne _ _ (Ne.symm h2)]; exact w5
  · rw [va_up_ne _ _ (Ne.symm h2), va_up_ne _ _ (Ne.symm h4), va_up_ne _ _ (Ne.symm h5)]; exact w6
/-- the law's sum doesn't see them, but for courses -/
theorem allS_row {r : Nat} {g : Nat → Int32} (h2 : r ≠ 2) (h3 : r ≠ 3) : allS n t fd wf (va_up wa i (va_up (wa i) r g)) = allS n t fd wf wa := by
  unfold allS
  have e2 : (fun x => va_up wa i (va_up (wa i) r g) x 2) = fun x => wa x 2 := by
    funext x
    by_cases hx : x = i
    · subst hx; rw [va_up_self, va_up_ne _ _ (Ne.symm h2)]
    · rw [va_up_ne _ _ hx]
  have e3 : (fun x => va_up wa i (va_up (wa i) r g) x 3) = fun x => wa x 3 := by
    funext x
    by_cases hx : x = i
    · subst hx; rw [va_up_self, va_up_ne _ _ (Ne.symm h3)]
    · rw [va_up_ne _ _ hx]
  rw [e2, e3]
end INW
/-- the law's step answers true and the state is kept -/
def PSI (G : Gx) (q : Nat → Nat) (nc : Nat) (fl : Int32) (r : Int32) (w : va_W) : Prop := r = 1 ∧ SI G q nc fl w
theorem PSI_mk {G : Gx} {q : Nat → Nat} {n nc t : Nat} {fl fd : Int32} {k : Nat → Int32} {wd : Nat → Nat → Nat} {wf : Nat → Nat → Int32} {wa : Nat → Nat → Nat → Int32} {cd : Nat → Nat} {cf : Nat → Nat → Int32} (hI : IN n nc t fl fd k wf wa cf) : PSI G q nc fl 1 (sW G q n nc t fl fd k wd wf wa cd cf) :=
  ⟨rfl, n, t, fd, k, wd, wf, wa, cd, cf, rfl, hI⟩
theorem nI_add2_ne {n : Nat} (hn : n ≤ 1000) (m : Nat) (h0 : 0 < m) (hm : m ≤ 1000) : ¬ nI n + nI m = 0 := by
  rw [nI_add]
  exact nI_ne0 (by omega) (by omega)
