/-! one worker, one course more -/
theorem rfT_z {d : Nat → Nat} : rfT d 0 = fun _ => none := by
  funext i
  unfold rfT
  rw [if_neg (Nat.not_lt_zero i)]
theorem rfT_up {d d' : Nat → Nat} {n v : Nat} (h : ∀ i, i < n → d' i = d i) (hv : d' n = v) : va_up (rfT d n) n (some v) = rfT d' (n + 1) := by
  funext i
  unfold va_up rfT
  by_cases h1 : i = n
  · subst h1
    rw [if_pos rfl, if_pos (Nat.lt_succ_self i), hv]
  · rw [if_neg h1]
    by_cases h2 : i < n
    · rw [if_pos h2, if_pos (by omega), h i h2]
    · rw [if_neg h2, if_neg (by omega)]
theorem HH.swap9 {G : Gx} {A : Nat → Prop} {s : State} {a b c : va_W} {H : Heap} {locs : List Loc} (h : HH G A s ((a ++ b) ++ c) H locs) : HH G A s ((a ++ c) ++ b) H locs := ⟨h.1.swap, h.2.1.swap, h.2.2⟩
section Add9
variable {G : Gx} {A : Nat → Prop} {s : State} {H : Heap} {locs : List Loc} {q d : Nat → Nat} {n nc t q5 : Nat} {fl fd : Int32} {k f0 : Nat → Int32} {a0 : Nat → Nat → Int32} {wd : Nat → Nat → Nat} {wf : Nat → Nat → Int32} {wa : Nat → Nat → Nat → Int32} {cd : Nat → Nat} {cf : Nat → Nat → Int32}
theorem sW_addW (h : HH G A s (((sW G q n nc t fl fd k wd wf wa cd cf ++ wW G d f0 a0 ++ []).set 1 (q 1, .inl (G.2 2, 8, .inr (.inr (.inr (.inr (va_up (rfT (fun i => wd i 0) n) n (some (d 0))))))))).set 0 (q 0, .inr (2, [.ref (q 1), .ref (q 2), .ref (q 3), .int (nI n + 1), .int (nI nc), .int (nI t), .int fl, .int fd]))) H locs) :
    HH G A s (sW G q (n + 1) nc t fl fd k (va_up wd n d) (va_up wf n f0) (va_up wa n a0) cd cf) H locs := by
  have e1 : va_up (rfT (fun i => wd i 0) n) n (some (d 0)) = rfT (fun i => va_up wd n d i 0) (n + 1) := rfT_up (fun i hi => by rw [va_up_ne _ _ (Nat.ne_of_lt hi)]) (by rw [va_up_self])
  have e2 : wkL G (va_up wd n d) (va_up wf n f0) (va_up wa n a0) (n + 1) = wkL G wd wf wa n ++ wW G d f0 a0 := by
    show wkL G (va_up wd n d) (va_up wf n f0) (va_up wa n a0) n ++ wW G (va_up wd n d n) (va_up wf n f0 n) (va_up wa n a0 n) = _
    rw [va_up_self, va_up_self, va_up_self, wkL_congr (wd' := wd) (wf' := wf) (wa' := wa) (fun j hj => ⟨va_up_ne _ _ (Nat.ne_of_lt hj), va_up_ne _ _ (Nat.ne_of_lt hj), va_up_ne _ _ (Nat.ne_of_lt hj)⟩)]
  have h2 : HH G A s ((((q 0, .inr (2, [.ref (q 1), .ref (q 2), .ref (q 3), .int (nI n + 1), .int (nI nc), .int (nI t), .int fl, .int fd])) :: (q 1, .inl (G.2 2, 8, .inr (.inr (.inr (.inr (va_up (rfT (fun i => wd i 0) n) n (some (d 0)))))))) :: (q 2, .inl (G.2 3, 10, .inr (.inr (.inr (.inr (rfT cd nc)))))) :: (q 3, .inl (G.2 1, 201, .inl k)) :: wkL G wd wf wa n) ++ crL cd cf nc) ++ wW G d f0 a0) H locs := by
    rw [List.append_nil] at h
    unfold sW at h
    simp only [List.cons_append, List.set_cons_succ, List.set_cons_zero] at h
    simp only [List.cons_append]
    exact h
  have h3 := h2.swap9
  unfold sW
  rw [e2, ← e1, ← nI_1 n]
  simp only [List.cons_append, List.append_assoc] at h3 ⊢
  exact h3
theorem sW_addC (h : HH G A s (((sW G q n nc t fl fd k wd wf wa cd cf ++ cC q5 f0 ++ []).set 2 (q 2, .inl (G.2 3, 10, .inr (.inr (.inr (.inr (va_up (rfT cd nc) nc (some q5)))))))).set 0 (q 0, .inr (2, [.ref (q 1), .ref (q 2), .ref (q 3), .int (nI n), .int (nI nc + 1), .int (nI t), .int fl, .int fd]))) H locs) :
    HH G A s (sW G q n (nc + 1) t fl fd k wd wf wa (va_up cd nc q5) (va_up cf nc f0)) H locs := by
  have e1 : va_up (rfT cd nc) nc (some q5) = rfT (va_up cd nc q5) (nc + 1) := rfT_up (fun i hi => by rw [va_up_ne _ _ (Nat.ne_of_lt hi)]) (by rw [va_up_self])
  have e2 : crL (va_up cd nc q5) (va_up cf nc f0) (nc + 1) = crL cd cf nc ++ cC q5 f0 := by
    show crL (va_up cd nc q5) (va_up cf nc f0) nc ++ cC (va_up cd nc q5 nc) (va_up cf nc f0 nc) = _
    rw [va_up_self, va_up_self, crL_congr (cd' := cd) (cf' := cf) (fun j hj => ⟨va_up_ne _ _ (Nat.ne_of_lt hj), va_up_ne _ _ (Nat.ne_of_lt hj)⟩)]
  rw [List.append_nil] at h
  unfold sW at h ⊢
  rw [e2, ← e1, ← nI_1 nc]
  simp only [List.cons_append, List.set_cons_succ, List.set_cons_zero, List.append_assoc] at h ⊢
  exact h
end Add9

